set_option maxHeartbeats 4000000 in
set_option maxRecDepth 100000 in
theorem m_Jxa1e45_init_da8c8 (l : Launch) (hl0 : l.stackTraces = false) (g : kG) (h0 : Nat)  : kc l g yJxa1e45_init_da8c8 prog_36_method_1_code 1 none 1 20 0 0 [.ref h0] [] (fun v w => (v = none ∧ w = [])) (fun _ _ => False) := by
  refine kbody (by decide) (Nat.le_of_ble_eq_true rfl) ?_
  intro p e s m args below meth c A H K ht G hP hD hA hS ls hl
  have K : KB p s m meth c RJxa1e45 "<init>" prog_36_method_1_code 1 none := K
  obtain ⟨hx, hb, hml, hown, hlocks, hr, hin⟩ := id K
  have hl : lv_has ls 1 [(0, .ref h0)] := hl
  refine lv_aload_n hx hb dJxa1e45_init_da8c8_0 rfl (lv_at hl 0 rfl) ?_
  refine W.objInit hx hb hown (G.w kw_287) (G.w kw_288) (G.w kw_289) rfl (by rw [hml]; exact hl.1) rfl dJxa1e45_init_da8c8_1 (Nat.le_of_ble_eq_true rfl) (Nat.le_of_ble_eq_true rfl) ?_
  refine W.eq (g2 := F0 m 4 ls []) rfl ?_
  exact kretV K hP hD hS [] [] rfl rfl (⟨rfl, rfl⟩) (by decide) (by decide) dJxa1e45_init_da8c8_4

set_option maxHeartbeats 4000000 in
set_option maxRecDepth 100000 in
theorem m_Jxc12de_init_da8c8 (l : Launch) (hl0 : l.stackTraces = false) (g : kG) (h0 : Nat)  : kc l g yJxc12de_init_da8c8 prog_37_method_1_code 1 none 2 40 0 0 [.ref h0] [(h0, .inr (2, [.int 0, .null, .int 0]))] (fun v w => (v = none ∧ w = [(h0, .inr (2, [.int 0, .null, .int 0]))])) (fun _ _ => False) := by
  refine kbody (by decide) (Nat.le_of_ble_eq_true rfl) ?_
  intro p e s m args below meth c A H K ht G hP hD hA hS ls hl
  have K : KB p s m meth c RJxc12de "<init>" prog_37_method_1_code 1 none := K
  obtain ⟨hx, hb, hml, hown, hlocks, hr, hin⟩ := id K
  have hl : lv_has ls 1 [(0, .ref h0)] := hl
  refine lv_aload_n hx hb dJxc12de_init_da8c8_0 rfl (lv_at hl 0 rfl) ?_
  refine kcallI (wc := []) (wr := [(h0, .inr (2, [.int 0, .null, .int 0]))]) (As := []) (rest := []) K G (m_Jxa1e45_init_da8c8 l hl0 g h0 ) hP hD hS hA hl kw_290 kw_291 kw_293 kw_292 rfl ydJxa1e45_init_da8c8 [] [0] rfl rfl rfl rfl (by decide) rfl rfl (Nat.le_of_ble_eq_true rfl) dJxc12de_init_da8c8_1 ⟨Nat.le_of_ble_eq_true rfl, Nat.le_of_ble_eq_true rfl⟩ ⟨Nat.le_of_ble_eq_true rfl, Nat.le_of_ble_eq_true rfl⟩ (fun _ _ _ _ _ _ hX _ _ _ _ _ _ => hX.elim) (fun v w1 H locs hQ hP hD hS => ?_)
  obtain ⟨rfl, rfl⟩ := hQ
  have hP : va_P g.1 vwCl [(h0, .inr (2, [.int 0, .null, .int 0]))] H := hP
  have hD : va_D A [(h0, .inr (2, [.int 0, .null, .int 0]))] := hD
  refine W.widen (k := 0) (n := 0) (by decide) (by decide) ?_
  refine W.eq (g2 := F0 m 4 ls []) rfl ?_
  refine lv_aload_n hx hb dJxc12de_init_da8c8_4 rfl (lv_at hl 0 rfl) ?_
  refine lv_iconst (v := 0) hx hb dJxc12de_init_da8c8_5 (by decide) ?_
  refine va_put (D := g.1) (ci := 2) (v := .int 0) (ty := .int) (C := RJx4a65c) (T := TJx4a65c) (N := 3) hx hb G.ws inJx4a65c tyJx4a65c tyJx4a65c_ok nmJx4a65c hown G.K hP hD hS 0 rfl rfl 0 (by decide) (G.w kw_294) (fun _ h9 => h9) (by decide +kernel) (by decide +kernel) rfl rfl (Nat.le_of_ble_eq_true rfl) dJxc12de_init_da8c8_6 (fun H locs hP hD hS => ?_)
  have hP : va_P g.1 vwCl [(h0, .inr (2, [.int 0, .null, .int 0]))] H := hP
  have hD : va_D A [(h0, .inr (2, [.int 0, .null, .int 0]))] := hD
  exact kretV K hP hD hS [0] [(h0, .inr (2, [.int 0, .null, .int 0]))] rfl rfl (⟨rfl, rfl⟩) (by decide) (by decide) dJxc12de_init_da8c8_9

set_option maxHeartbeats 4000000 in
set_option maxRecDepth 100000 in
theorem m_Jx4a65c_init_da8c8 (l : Launch) (hl0 : l.stackTraces = false) (g : kG) (h0 : Nat)  : kc l g yJx4a65c_init_da8c8 prog_38_method_2_code 1 none 3 60 0 0 [.ref h0] [(h0, .inr (2, [.int 0, .null, .int 0]))] (fun v w => (v = none ∧ w = [(h0, .inr (2, [.int 0, .ref g.2.1, .int 0]))])) (fun _ _ => False) := by
  refine kbody (by decide) (Nat.le_of_ble_eq_true rfl) ?_
  intro p e s m args below meth c A H K ht G hP hD hA hS ls hl
  have K : KB p s m meth c RJx4a65c "<init>" prog_38_method_2_code 1 none := K
  obtain ⟨hx, hb, hml, hown, hlocks, hr, hin⟩ := id K
  have hl : lv_has ls 1 [(0, .ref h0)] := hl
  refine lv_aload_n hx hb dJx4a65c_init_da8c8_0 rfl (lv_at hl 0 rfl) ?_
  refine kcallI (wc := [(h0, .inr (2, [.int 0, .null, .int 0]))]) (wr := []) (As := []) (rest := []) K G (m_Jxc12de_init_da8c8 l hl0 g h0 ) hP hD hS hA hl kw_295 kw_296 kw_298 kw_297 rfl ydJxc12de_init_da8c8 [0] [] rfl rfl rfl rfl (by decide) rfl rfl (Nat.le_of_ble_eq_true rfl) dJx4a65c_init_da8c8_1 ⟨Nat.le_of_ble_eq_true rfl, Nat.le_of_ble_eq_true rfl⟩ ⟨Nat.le_of_ble_eq_true rfl, Nat.le_of_ble_eq_true rfl⟩ (fun _ _ _ _ _ _ hX _ _ _ _ _ _ => hX.elim) (fun v w1 H locs hQ hP hD hS => ?_)
  obtain ⟨rfl, rfl⟩ := hQ
  have hP : va_P g.1 vwCl [(h0, .inr (2, [.int 0, .null, .int 0]))] H := hP
  have hD : va_D A [(h0, .inr (2, [.int 0, .null, .int 0]))] := hD
  refine W.widen (k := 0) (n := 0) (by decide) (by decide) ?_
  refine W.eq (g2 := F0 m 4 ls []) rfl ?_
  refine lv_aload_n hx hb dJx4a65c_init_da8c8_4 rfl (lv_at hl 0 rfl) ?_
  refine va_gets (v := .ref g.2.1) hx hb G.Z hS hown (G.w kw_299) (fun _ h9 => h9) dJx4a65c_init_da8c8_5 ?_
  refine va_put (D := g.1) (ci := 2) (v := .ref g.2.1) (ty := (.array (.object "java/lang/Object"))) (C := RJx4a65c) (T := TJx4a65c) (N := 3) hx hb G.ws inJx4a65c tyJx4a65c tyJx4a65c_ok nmJx4a65c hown G.K hP hD hS 0 rfl rfl 1 (by decide) (G.w kw_14) (fun _ h9 => h9) (by decide +kernel) (by decide +kernel) rfl rfl (Nat.le_of_ble_eq_true rfl) dJx4a65c_init_da8c8_8 (fun H locs hP hD hS => ?_)
  have hP : va_P g.1 vwCl [(h0, .inr (2, [.int 0, .ref g.2.1, .int 0]))] H := hP
  have hD : va_D A [(h0, .inr (2, [.int 0, .ref g.2.1, .int 0]))] := hD
  exact kretV K hP hD hS [0] [(h0, .inr (2, [.int 0, .ref g.2.1, .int 0]))] rfl rfl (⟨rfl, rfl⟩) (by decide) (by decide) dJx4a65c_init_da8c8_11

set_option maxHeartbeats 4000000 in
set_option maxRecDepth 100000 in
theorem m_Jx4a65c_grow_92f84 (l : Launch) (hl0 : l.stackTraces = false) (g : kG) (h0 : Nat) (mc : Int32)  : kc l g yJx4a65c_grow_92f84 prog_38_method_6_code 4 (some (.array (.object "java/lang/Object"))) 1 21 1 10 [.ref h0, .int 1] [(h0, .inr (2, [.int mc, .ref g.2.1, .int 0]))] (fun v w => (∃ q0 : Nat, v = some (.ref q0) ∧ w = [(h0, .inr (2, [.int mc, .ref q0, .int 0])), (q0, .inl ((g.2.2.1 4), 10, .inr (.inr (.inr (.inr (fun _ => none))))))])) (fun _ _ => False) := by
  refine kbody (by decide) (Nat.le_of_ble_eq_true rfl) ?_
  intro p e s m args below meth c A H K ht G hP hD hA hS ls hl
  have K : KB p s m meth c RJx4a65c "grow" prog_38_method_6_code 4 (some (.array (.object "java/lang/Object"))) := K
  obtain ⟨hx, hb, hml, hown, hlocks, hr, hin⟩ := id K
  have hl : lv_has ls 4 [(0, .ref h0), (1, .int 1)] := hl
  refine lv_aload_n hx hb dJx4a65c_grow_92f84_0 rfl (lv_at hl 0 rfl) ?_
  refine va_get (D := g.1) (ci := 2) (v := .ref g.2.1) (C := RJx4a65c) (T := TJx4a65c) (N := 3) hx hb G.ws inJx4a65c hown G.K hP 0 rfl rfl 1 (by decide) (G.w kw_14) (fun _ h9 => h9) rfl dJx4a65c_grow_92f84_1 ?_
  refine va_tlen (v := 0) hx hb G.E hS rfl dJx4a65c_grow_92f84_4 ?_
  refine lv_istore_n (lv' := [(2, .int 0), (0, .ref h0), (1, .int 1)]) hx hb dJx4a65c_grow_92f84_5 rfl hl (by decide) rfl (fun ls hl => ?_)
  refine lv_iload_n hx hb dJx4a65c_grow_92f84_6 rfl (lv_at hl 0 rfl) ?_
  refine lv_if_gt (tgt := 20) hx hb dJx4a65c_grow_92f84_7 (by decide) (fun c7_1 => absurd c7_1 (by decide)) (fun _ => ?_)
  refine lv_aload_n hx hb dJx4a65c_grow_92f84_10 rfl (lv_at hl 1 rfl) ?_
  refine va_get (D := g.1) (ci := 2) (v := .ref g.2.1) (C := RJx4a65c) (T := TJx4a65c) (N := 3) hx hb G.ws inJx4a65c hown G.K hP 0 rfl rfl 1 (by decide) (G.w kw_14) (fun _ h9 => h9) rfl dJx4a65c_grow_92f84_11 ?_
  refine va_gets (v := .ref g.2.1) hx hb G.Z hS hown (G.w kw_299) (fun _ h9 => h9) dJx4a65c_grow_92f84_14 ?_
  refine lv_acmp_eq (rx := some g.2.1) (ry := some g.2.1) (tgt := 45) hx hb dJx4a65c_grow_92f84_17 (by decide) (fun _ => ?_) (fun h9 => absurd rfl h9)
  refine lv_aload_n hx hb dJx4a65c_grow_92f84_45 rfl (lv_at hl 1 rfl) ?_
  refine lv_bipush (v := 10) hx hb dJx4a65c_grow_92f84_46 (by decide) ?_
  refine lv_iload_n hx hb dJx4a65c_grow_92f84_48 rfl (lv_at hl 2 rfl) ?_
  refine va_mmax hx hb (by rw [hml]; exact hl.1.symm) hown (G.w kw_300) (G.w kw_5) (G.w kw_2) (G.w kw_6) (Nat.le_of_ble_eq_true rfl) (Nat.le_of_ble_eq_true rfl) (Nat.le_of_ble_eq_true rfl) (Nat.le_of_ble_eq_true rfl) dJx4a65c_grow_92f84_49 ?_
  refine lv_topi (fun y_2 ey_2 => ?_)
  obtain rfl : y_2 = 10 := ey_2.trans (by decide)
  refine kNewaO hx hb hown (G.w kw_301) G hP hD hS hA (n := 10) (N := 10) (by decide) (by decide) (by decide) (by decide) (by decide) dJx4a65c_grow_92f84_52 (fun q_3 H hP hD hS => ?_)
  have hP : va_P g.1 vwCl [(h0, .inr (2, [.int mc, .ref g.2.1, .int 0])), (q_3, .inl ((g.2.2.1 4), 10, .inr (.inr (.inr (.inr (fun _ => none))))))] H := hP
  have hD : va_D A [(h0, .inr (2, [.int mc, .ref g.2.1, .int 0])), (q_3, .inl ((g.2.2.1 4), 10, .inr (.inr (.inr (.inr (fun _ => none))))))] := hD
  refine W.widen (k := 1) (n := 10) (by decide) (by decide) ?_
  refine lv_dup_x1 hx hb dJx4a65c_grow_92f84_55 rfl rfl ?_
  refine va_put (D := g.1) (ci := 2) (v := .ref q_3) (ty := (.array (.object "java/lang/Object"))) (C := RJx4a65c) (T := TJx4a65c) (N := 3) hx hb G.ws inJx4a65c tyJx4a65c tyJx4a65c_ok nmJx4a65c hown G.K hP hD hS 0 rfl rfl 1 (by decide) (G.w kw_14) (fun _ h9 => h9) (by decide +kernel) (by decide +kernel) rfl rfl (Nat.le_of_ble_eq_true rfl) dJx4a65c_grow_92f84_56 (fun H locs hP hD hS => ?_)
  have hP : va_P g.1 vwCl [(h0, .inr (2, [.int mc, .ref q_3, .int 0])), (q_3, .inl ((g.2.2.1 4), 10, .inr (.inr (.inr (.inr (fun _ => none))))))] H := hP
  have hD : va_D A [(h0, .inr (2, [.int mc, .ref q_3, .int 0])), (q_3, .inl ((g.2.2.1 4), 10, .inr (.inr (.inr (.inr (fun _ => none))))))] := hD
  exact kretA K hP hD hS [0, 1] [(h0, .inr (2, [.int mc, .ref q_3, .int 0])), (q_3, .inl ((g.2.2.1 4), 10, .inr (.inr (.inr (.inr (fun _ => none))))))] rfl rfl (⟨q_3, rfl, rfl⟩) (by decide) (by decide) dJx4a65c_grow_92f84_59

set_option maxHeartbeats 4000000 in
set_option maxRecDepth 100000 in
theorem m_Jx4a65c_grow_d5877 (l : Launch) (hl0 : l.stackTraces = false) (g : kG) (h0 : Nat) (mc : Int32)  : kc l g yJx4a65c_grow_d5877 prog_38_method_7_code 1 (some (.array (.object "java/lang/Object"))) 2 44 1 10 [.ref h0] [(h0, .inr (2, [.int mc, .ref g.2.1, .int 0]))] (fun v w => (∃ q0 : Nat, v = some (.ref q0) ∧ w = [(h0, .inr (2, [.int mc, .ref q0, .int 0])), (q0, .inl ((g.2.2.1 4), 10, .inr (.inr (.inr (.inr (fun _ => none))))))])) (fun _ _ => False) := by
  refine kbody (by decide) (Nat.le_of_ble_eq_true rfl) ?_
  intro p e s m args below meth c A H K ht G hP hD hA hS ls hl
  have K : KB p s m meth c RJx4a65c "grow" prog_38_method_7_code 1 (some (.array (.object "java/lang/Object"))) := K
  obtain ⟨hx, hb, hml, hown, hlocks, hr, hin⟩ := id K
  have hl : lv_has ls 1 [(0, .ref h0)] := hl
  refine lv_aload_n hx hb dJx4a65c_grow_d5877_0 rfl (lv_at hl 0 rfl) ?_
  refine lv_aload_n hx hb dJx4a65c_grow_d5877_1 rfl (lv_at hl 0 rfl) ?_
  refine va_get (D := g.1) (ci := 2) (v := .int 0) (C := RJx4a65c) (T := TJx4a65c) (N := 3) hx hb G.ws inJx4a65c hown G.K hP 0 rfl rfl 2 (by decide) (G.w kw_15) (fun _ h9 => h9) rfl dJx4a65c_grow_d5877_2 ?_
  refine lv_iconst (v := 1) hx hb dJx4a65c_grow_d5877_5 (by decide) ?_
  refine lv_iadd hx hb dJx4a65c_grow_d5877_6 ?_
  refine lv_topi (fun y_1 ey_1 => ?_)
  obtain rfl : y_1 = 1 := ey_1.trans (by decide)
  refine kcallV (wc := [(h0, .inr (2, [.int mc, .ref g.2.1, .int 0]))]) (wr := []) (As := [.int 1]) (rest := []) K G (m_Jx4a65c_grow_92f84 l hl0 g h0 mc ) hP hD hS hA hl kw_302 kw_303 kw_304 kw_305 kw_22 ydJx4a65c_grow_92f84 [0] [] rfl rfl rfl rfl (by decide) (ci := 2) (q0 := 0) rfl rfl rfl rfl rfl (Nat.le_of_ble_eq_true rfl) dJx4a65c_grow_d5877_7 ⟨Nat.le_of_ble_eq_true rfl, Nat.le_of_ble_eq_true rfl⟩ ⟨Nat.le_of_ble_eq_true rfl, Nat.le_of_ble_eq_true rfl⟩ (fun _ _ _ _ _ _ hX _ _ _ _ _ _ => hX.elim) (fun v w1 H locs hQ hP hD hS => ?_)
  obtain ⟨q0_3, rfl, rfl⟩ := hQ
  have hP : va_P g.1 vwCl [(h0, .inr (2, [.int mc, .ref q0_3, .int 0])), (q0_3, .inl ((g.2.2.1 4), 10, .inr (.inr (.inr (.inr (fun _ => none))))))] H := hP
  have hD : va_D A [(h0, .inr (2, [.int mc, .ref q0_3, .int 0])), (q0_3, .inl ((g.2.2.1 4), 10, .inr (.inr (.inr (.inr (fun _ => none))))))] := hD
  refine W.widen (k := 1) (n := 10) (by decide) (by decide) ?_
  refine W.eq (g2 := F0 m 10 ls [.ref q0_3]) rfl ?_
  exact kretA K hP hD hS [0, 1] [(h0, .inr (2, [.int mc, .ref q0_3, .int 0])), (q0_3, .inl ((g.2.2.1 4), 10, .inr (.inr (.inr (.inr (fun _ => none))))))] rfl rfl (⟨q0_3, rfl, rfl⟩) (by decide) (by decide) dJx4a65c_grow_d5877_10

set_option maxHeartbeats 4000000 in
set_option maxRecDepth 100000 in
theorem m_Jx4a65c_add_72be80 (l : Launch) (hl0 : l.stackTraces = false) (g : kG) (h0 : Nat) (mc : Int32) (v0 : Nat) (ci0 : Nat) (vs : List Value) (r0 : vw_C) (hc : vwCl[ci0]? = some r0) (hca : Cond.castable r0.1 "java/lang/Object" ∈ kw) : kc l g yJx4a65c_add_72be8 prog_38_method_24_code 4 none 3 64 1 10 [.ref h0, .ref v0, .ref g.2.1, .int 0] [(h0, .inr (2, [.int mc, .ref g.2.1, .int 0])), (v0, .inr (ci0, vs))] (fun v w => (∃ q0 : Nat, v = none ∧ w = [(h0, .inr (2, [.int mc, .ref q0, .int 1])), (q0, .inl ((g.2.2.1 4), 10, .inr (.inr (.inr (.inr (va_up (fun _ => none) 0 (some v0))))))), (v0, .inr (ci0, vs))])) (fun _ _ => False) := by
  refine kbody (by decide) (Nat.le_of_ble_eq_true rfl) ?_
  intro p e s m args below meth c A H K ht G hP hD hA hS ls hl
  have K : KB p s m meth c RJx4a65c "add" prog_38_method_24_code 4 none := K
  obtain ⟨hx, hb, hml, hown, hlocks, hr, hin⟩ := id K
  have hl : lv_has ls 4 [(0, .ref h0), (1, .ref v0), (2, .ref g.2.1), (3, .int 0)] := hl
  refine lv_iload_n hx hb dJx4a65c_add_72be8_0 rfl (lv_at hl 3 rfl) ?_
  refine lv_aload_n hx hb dJx4a65c_add_72be8_1 rfl (lv_at hl 2 rfl) ?_
  refine va_tlen (v := 0) hx hb G.E hS rfl dJx4a65c_add_72be8_2 ?_
  refine lv_icmp_ne (tgt := 11) hx hb dJx4a65c_add_72be8_3 (by decide) (fun c3_1 => absurd c3_1 (by decide)) (fun _ => ?_)
  refine lv_aload_n hx hb dJx4a65c_add_72be8_6 rfl (lv_at hl 0 rfl) ?_
  refine kcallV (wc := [(h0, .inr (2, [.int mc, .ref g.2.1, .int 0]))]) (wr := [(v0, .inr (ci0, vs))]) (As := []) (rest := []) K G (m_Jx4a65c_grow_d5877 l hl0 g h0 mc ) hP hD hS hA hl kw_306 kw_307 kw_308 kw_309 kw_22 ydJx4a65c_grow_d5877 [0] [1] rfl rfl rfl rfl (by decide) (ci := 2) (q0 := 0) rfl rfl rfl rfl rfl (Nat.le_of_ble_eq_true rfl) dJx4a65c_add_72be8_7 ⟨Nat.le_of_ble_eq_true rfl, Nat.le_of_ble_eq_true rfl⟩ ⟨Nat.le_of_ble_eq_true rfl, Nat.le_of_ble_eq_true rfl⟩ (fun _ _ _ _ _ _ hX _ _ _ _ _ _ => hX.elim) (fun v w1 H locs hQ hP hD hS => ?_)
  obtain ⟨q0_3, rfl, rfl⟩ := hQ
  have hP : va_P g.1 vwCl [(v0, .inr (ci0, vs)), (h0, .inr (2, [.int mc, .ref q0_3, .int 0])), (q0_3, .inl ((g.2.2.1 4), 10, .inr (.inr (.inr (.inr (fun _ => none))))))] H := hP
  have hD : va_D A [(v0, .inr (ci0, vs)), (h0, .inr (2, [.int mc, .ref q0_3, .int 0])), (q0_3, .inl ((g.2.2.1 4), 10, .inr (.inr (.inr (.inr (fun _ => none))))))] := hD
  refine W.widen (k := 1) (n := 10) (by decide) (by decide) ?_
  refine W.eq (g2 := F0 m 10 ls [.ref q0_3]) rfl ?_
  refine lv_astore_n (lv' := [(2, .ref q0_3), (0, .ref h0), (1, .ref v0), (3, .int 0)]) hx hb dJx4a65c_add_72be8_10 rfl hl (by decide) rfl (fun ls hl => ?_)
  refine lv_aload_n hx hb dJx4a65c_add_72be8_11 rfl (lv_at hl 0 rfl) ?_
  refine lv_iload_n hx hb dJx4a65c_add_72be8_12 rfl (lv_at hl 3 rfl) ?_
  refine lv_aload_n hx hb dJx4a65c_add_72be8_13 rfl (lv_at hl 2 rfl) ?_
  refine va_astqO (E := "java/lang/Object") hx hb G.K hP hD hS 2 4 0 ci0 rfl rfl (G.nw hca) rfl hc (i := 0) (vp_in_iff.mpr ⟨by decide, by decide⟩) dJx4a65c_add_72be8_14 (fun H locs hP hD hS => ?_)
  have hP : va_P g.1 vwCl [(v0, .inr (ci0, vs)), (h0, .inr (2, [.int mc, .ref q0_3, .int 0])), (q0_3, .inl ((g.2.2.1 4), 10, .inr (.inr (.inr (.inr (va_up (fun _ => none) (0 : Int32).toNatClampNeg (some v0)))))))] H := hP
  have hD : va_D A [(v0, .inr (ci0, vs)), (h0, .inr (2, [.int mc, .ref q0_3, .int 0])), (q0_3, .inl ((g.2.2.1 4), 10, .inr (.inr (.inr (.inr (va_up (fun _ => none) (0 : Int32).toNatClampNeg (some v0)))))))] := hD
  have hP : va_P g.1 vwCl [(v0, .inr (ci0, vs)), (h0, .inr (2, [.int mc, .ref q0_3, .int 0])), (q0_3, .inl ((g.2.2.1 4), 10, .inr (.inr (.inr (.inr (va_up (fun _ => none) 0 (some v0)))))))] H := hP
  have hD : va_D A [(v0, .inr (ci0, vs)), (h0, .inr (2, [.int mc, .ref q0_3, .int 0])), (q0_3, .inl ((g.2.2.1 4), 10, .inr (.inr (.inr (.inr (va_up (fun _ => none) 0 (some v0)))))))] := hD
  refine lv_aload_n hx hb dJx4a65c_add_72be8_15 rfl (lv_at hl 1 rfl) ?_
  refine lv_iload_n hx hb dJx4a65c_add_72be8_16 rfl (lv_at hl 3 rfl) ?_
  refine lv_iconst (v := 1) hx hb dJx4a65c_add_72be8_17 (by decide) ?_
  refine lv_iadd hx hb dJx4a65c_add_72be8_18 ?_
  refine lv_topi (fun y_4 ey_4 => ?_)
  obtain rfl : y_4 = 1 := ey_4.trans (by decide)
  refine va_put (D := g.1) (ci := 2) (v := .int 1) (ty := .int) (C := RJx4a65c) (T := TJx4a65c) (N := 3) hx hb G.ws inJx4a65c tyJx4a65c tyJx4a65c_ok nmJx4a65c hown G.K hP hD hS 1 rfl rfl 2 (by decide) (G.w kw_15) (fun _ h9 => h9) (by decide +kernel) (by decide +kernel) rfl rfl (Nat.le_of_ble_eq_true rfl) dJx4a65c_add_72be8_19 (fun H locs hP hD hS => ?_)
  have hP : va_P g.1 vwCl [(v0, .inr (ci0, vs)), (h0, .inr (2, [.int mc, .ref q0_3, .int 1])), (q0_3, .inl ((g.2.2.1 4), 10, .inr (.inr (.inr (.inr (va_up (fun _ => none) 0 (some v0)))))))] H := hP
  have hD : va_D A [(v0, .inr (ci0, vs)), (h0, .inr (2, [.int mc, .ref q0_3, .int 1])), (q0_3, .inl ((g.2.2.1 4), 10, .inr (.inr (.inr (.inr (va_up (fun _ => none) 0 (some v0)))))))] := hD
  exact kretV K hP hD hS [1, 2, 0] [(h0, .inr (2, [.int mc, .ref q0_3, .int 1])), (q0_3, .inl ((g.2.2.1 4), 10, .inr (.inr (.inr (.inr (va_up (fun _ => none) 0 (some v0))))))), (v0, .inr (ci0, vs))] rfl rfl (⟨q0_3, rfl, rfl⟩) (by decide) (by decide) dJx4a65c_add_72be8_22

set_option maxHeartbeats 4000000 in
set_option maxRecDepth 100000 in
theorem m_Jx4a65c_add_9ea2d0 (l : Launch) (hl0 : l.stackTraces = false) (g : kG) (h0 : Nat) (mc : Int32) (v0 : Nat) (ci0 : Nat) (vs : List Value) (r0 : vw_C) (hc : vwCl[ci0]? = some r0) (hca : Cond.castable r0.1 "java/lang/Object" ∈ kw) : kc l g yJx4a65c_add_9ea2d prog_38_method_25_code 2 (some .boolean) 4 87 1 10 [.ref h0, .ref v0] [(h0, .inr (2, [.int mc, .ref g.2.1, .int 0])), (v0, .inr (ci0, vs))] (fun v w => (∃ q0 : Nat, v = some (.int 1) ∧ w = [(h0, .inr (2, [.int (mc + 1), .ref q0, .int 1])), (q0, .inl ((g.2.2.1 4), 10, .inr (.inr (.inr (.inr (va_up (fun _ => none) 0 (some v0))))))), (v0, .inr (ci0, vs))])) (fun _ _ => False) := by
  refine kbody (by decide) (Nat.le_of_ble_eq_true rfl) ?_
  intro p e s m args below meth c A H K ht G hP hD hA hS ls hl
  have K : KB p s m meth c RJx4a65c "add" prog_38_method_25_code 2 (some .boolean) := K
  obtain ⟨hx, hb, hml, hown, hlocks, hr, hin⟩ := id K
  have hl : lv_has ls 2 [(0, .ref h0), (1, .ref v0)] := hl
  refine lv_aload_n hx hb dJx4a65c_add_9ea2d_0 rfl (lv_at hl 0 rfl) ?_
  refine lv_dup hx hb dJx4a65c_add_9ea2d_1 rfl ?_
  refine va_get (D := g.1) (ci := 2) (v := .int mc) (C := RJx4a65c) (T := TJx4a65c) (N := 3) hx hb G.ws inJx4a65c hown G.K hP 0 rfl rfl 0 (by decide) (G.w kw_310) (G.same kw_311) rfl dJx4a65c_add_9ea2d_2 ?_
  refine lv_iconst (v := 1) hx hb dJx4a65c_add_9ea2d_5 (by decide) ?_
  refine lv_iadd hx hb dJx4a65c_add_9ea2d_6 ?_
  refine va_put (D := g.1) (ci := 2) (v := .int (mc + 1)) (ty := .int) (C := RJx4a65c) (T := TJx4a65c) (N := 3) hx hb G.ws inJx4a65c tyJx4a65c tyJx4a65c_ok nmJx4a65c hown G.K hP hD hS 0 rfl rfl 0 (by decide) (G.w kw_310) (G.same kw_311) (by decide +kernel) (by decide +kernel) rfl rfl (Nat.le_of_ble_eq_true rfl) dJx4a65c_add_9ea2d_7 (fun H locs hP hD hS => ?_)
  have hP : va_P g.1 vwCl [(h0, .inr (2, [.int (mc + 1), .ref g.2.1, .int 0])), (v0, .inr (ci0, vs))] H := hP
  have hD : va_D A [(h0, .inr (2, [.int (mc + 1), .ref g.2.1, .int 0])), (v0, .inr (ci0, vs))] := hD
  refine lv_aload_n hx hb dJx4a65c_add_9ea2d_10 rfl (lv_at hl 0 rfl) ?_
  refine lv_aload_n hx hb dJx4a65c_add_9ea2d_11 rfl (lv_at hl 1 rfl) ?_
  refine lv_aload_n hx hb dJx4a65c_add_9ea2d_12 rfl (lv_at hl 0 rfl) ?_
  refine va_get (D := g.1) (ci := 2) (v := .ref g.2.1) (C := RJx4a65c) (T := TJx4a65c) (N := 3) hx hb G.ws inJx4a65c hown G.K hP 0 rfl rfl 1 (by decide) (G.w kw_14) (fun _ h9 => h9) rfl dJx4a65c_add_9ea2d_13 ?_
  refine lv_aload_n hx hb dJx4a65c_add_9ea2d_16 rfl (lv_at hl 0 rfl) ?_
  refine va_get (D := g.1) (ci := 2) (v := .int 0) (C := RJx4a65c) (T := TJx4a65c) (N := 3) hx hb G.ws inJx4a65c hown G.K hP 0 rfl rfl 2 (by decide) (G.w kw_15) (fun _ h9 => h9) rfl dJx4a65c_add_9ea2d_17 ?_
  refine kcallV (wc := [(h0, .inr (2, [.int (mc + 1), .ref g.2.1, .int 0])), (v0, .inr (ci0, vs))]) (wr := []) (As := [.ref v0, .ref g.2.1, .int 0]) (rest := []) K G (m_Jx4a65c_add_72be80 l hl0 g h0 (mc + 1) v0 ci0 vs _ hc hca) hP hD hS hA hl kw_312 kw_313 kw_314 kw_315 kw_22 ydJx4a65c_add_72be8 [0, 1] [] rfl rfl rfl rfl (by decide) (ci := 2) (q0 := 0) rfl rfl rfl rfl rfl (Nat.le_of_ble_eq_true rfl) dJx4a65c_add_9ea2d_20 ⟨Nat.le_of_ble_eq_true rfl, Nat.le_of_ble_eq_true rfl⟩ ⟨Nat.le_of_ble_eq_true rfl, Nat.le_of_ble_eq_true rfl⟩ (fun _ _ _ _ _ _ hX _ _ _ _ _ _ => hX.elim) (fun v w1 H locs hQ hP hD hS => ?_)
  obtain ⟨q0_2, rfl, rfl⟩ := hQ
  have hP : va_P g.1 vwCl [(h0, .inr (2, [.int (mc + 1), .ref q0_2, .int 1])), (q0_2, .inl ((g.2.2.1 4), 10, .inr (.inr (.inr (.inr (va_up (fun _ => none) 0 (some v0))))))), (v0, .inr (ci0, vs))] H := hP
  have hD : va_D A [(h0, .inr (2, [.int (mc + 1), .ref q0_2, .int 1])), (q0_2, .inl ((g.2.2.1 4), 10, .inr (.inr (.inr (.inr (va_up (fun _ => none) 0 (some v0))))))), (v0, .inr (ci0, vs))] := hD
  refine W.widen (k := 1) (n := 10) (by decide) (by decide) ?_
  refine W.eq (g2 := F0 m 23 ls []) rfl ?_
  refine lv_iconst (v := 1) hx hb dJx4a65c_add_9ea2d_23 (by decide) ?_
  exact kretZ K hP hD hS [0, 1, 2] [(h0, .inr (2, [.int (mc + 1), .ref q0_2, .int 1])), (q0_2, .inl ((g.2.2.1 4), 10, .inr (.inr (.inr (.inr (va_up (fun _ => none) 0 (some v0))))))), (v0, .inr (ci0, vs))] rfl rfl (⟨q0_2, rfl, rfl⟩) (by decide) (by decide) dJx4a65c_add_9ea2d_24

set_option maxHeartbeats 4000000 in
set_option maxRecDepth 100000 in
theorem m_Jx4a65c_add_72be81 (l : Launch) (hl0 : l.stackTraces = false) (g : kG) (h0 : Nat) (q0 : Nat) (mc : Int32) (f : Nat → Option Nat) (v0 : Nat) (ci0 : Nat) (vs : List Value) (r0 : vw_C) (hc : vwCl[ci0]? = some r0) (hca : Cond.castable r0.1 "java/lang/Object" ∈ kw) : kc l g yJx4a65c_add_72be8 prog_38_method_24_code 4 none 0 0 0 0 [.ref h0, .ref v0, .ref q0, .int 1] [(h0, .inr (2, [.int mc, .ref q0, .int 1])), (q0, .inl ((g.2.2.1 4), 10, .inr (.inr (.inr (.inr f))))), (v0, .inr (ci0, vs))] (fun v w => (v = none ∧ w = [(h0, .inr (2, [.int mc, .ref q0, .int 2])), (q0, .inl ((g.2.2.1 4), 10, .inr (.inr (.inr (.inr (va_up f 1 (some v0))))))), (v0, .inr (ci0, vs))])) (fun _ _ => False) := by
  refine kbody (by decide) (Nat.le_of_ble_eq_true rfl) ?_
  intro p e s m args below meth c A H K ht G hP hD hA hS ls hl
  have K : KB p s m meth c RJx4a65c "add" prog_38_method_24_code 4 none := K
  obtain ⟨hx, hb, hml, hown, hlocks, hr, hin⟩ := id K
  have hl : lv_has ls 4 [(0, .ref h0), (1, .ref v0), (2, .ref q0), (3, .int 1)] := hl
  refine lv_iload_n hx hb dJx4a65c_add_72be8_0 rfl (lv_at hl 3 rfl) ?_
  refine lv_aload_n hx hb dJx4a65c_add_72be8_1 rfl (lv_at hl 2 rfl) ?_
  refine va_alen (v := 10) hx hb G.K hP 1 4 rfl rfl (by first | decide | rfl) dJx4a65c_add_72be8_2 ?_
  refine lv_icmp_ne (tgt := 11) hx hb dJx4a65c_add_72be8_3 (by decide) (fun _ => ?_) (fun c3_1 => absurd c3_1 (by decide))
  refine lv_aload_n hx hb dJx4a65c_add_72be8_11 rfl (lv_at hl 2 rfl) ?_
  refine lv_iload_n hx hb dJx4a65c_add_72be8_12 rfl (lv_at hl 3 rfl) ?_
  refine lv_aload_n hx hb dJx4a65c_add_72be8_13 rfl (lv_at hl 1 rfl) ?_
  refine va_astqO (E := "java/lang/Object") hx hb G.K hP hD hS 1 4 2 ci0 rfl rfl (G.nw hca) rfl hc (i := 1) (vp_in_iff.mpr ⟨by decide, by decide⟩) dJx4a65c_add_72be8_14 (fun H locs hP hD hS => ?_)
  have hP : va_P g.1 vwCl [(h0, .inr (2, [.int mc, .ref q0, .int 1])), (q0, .inl ((g.2.2.1 4), 10, .inr (.inr (.inr (.inr (va_up f (1 : Int32).toNatClampNeg (some v0))))))), (v0, .inr (ci0, vs))] H := hP
  have hD : va_D A [(h0, .inr (2, [.int mc, .ref q0, .int 1])), (q0, .inl ((g.2.2.1 4), 10, .inr (.inr (.inr (.inr (va_up f (1 : Int32).toNatClampNeg (some v0))))))), (v0, .inr (ci0, vs))] := hD
  have hP : va_P g.1 vwCl [(h0, .inr (2, [.int mc, .ref q0, .int 1])), (q0, .inl ((g.2.2.1 4), 10, .inr (.inr (.inr (.inr (va_up f 1 (some v0))))))), (v0, .inr (ci0, vs))] H := hP
  have hD : va_D A [(h0, .inr (2, [.int mc, .ref q0, .int 1])), (q0, .inl ((g.2.2.1 4), 10, .inr (.inr (.inr (.inr (va_up f 1 (some v0))))))), (v0, .inr (ci0, vs))] := hD
  refine lv_aload_n hx hb dJx4a65c_add_72be8_15 rfl (lv_at hl 0 rfl) ?_
  refine lv_iload_n hx hb dJx4a65c_add_72be8_16 rfl (lv_at hl 3 rfl) ?_
  refine lv_iconst (v := 1) hx hb dJx4a65c_add_72be8_17 (by decide) ?_
  refine lv_iadd hx hb dJx4a65c_add_72be8_18 ?_
  refine lv_topi (fun y_2 ey_2 => ?_)
  obtain rfl : y_2 = 2 := ey_2.trans (by decide)
  refine va_put (D := g.1) (ci := 2) (v := .int 2) (ty := .int) (C := RJx4a65c) (T := TJx4a65c) (N := 3) hx hb G.ws inJx4a65c tyJx4a65c tyJx4a65c_ok nmJx4a65c hown G.K hP hD hS 0 rfl rfl 2 (by decide) (G.w kw_15) (fun _ h9 => h9) (by decide +kernel) (by decide +kernel) rfl rfl (Nat.le_of_ble_eq_true rfl) dJx4a65c_add_72be8_19 (fun H locs hP hD hS => ?_)
  have hP : va_P g.1 vwCl [(h0, .inr (2, [.int mc, .ref q0, .int 2])), (q0, .inl ((g.2.2.1 4), 10, .inr (.inr (.inr (.inr (va_up f 1 (some v0))))))), (v0, .inr (ci0, vs))] H := hP
  have hD : va_D A [(h0, .inr (2, [.int mc, .ref q0, .int 2])), (q0, .inl ((g.2.2.1 4), 10, .inr (.inr (.inr (.inr (va_up f 1 (some v0))))))), (v0, .inr (ci0, vs))] := hD
  exact kretV K hP hD hS [0, 1, 2] [(h0, .inr (2, [.int mc, .ref q0, .int 2])), (q0, .inl ((g.2.2.1 4), 10, .inr (.inr (.inr (.inr (va_up f 1 (some v0))))))), (v0, .inr (ci0, vs))] rfl rfl (⟨rfl, rfl⟩) (by decide) (by decide) dJx4a65c_add_72be8_22

set_option maxHeartbeats 4000000 in
set_option maxRecDepth 100000 in
theorem m_Jx4a65c_add_9ea2d1 (l : Launch) (hl0 : l.stackTraces = false) (g : kG) (h0 : Nat) (q0 : Nat) (mc : Int32) (f : Nat → Option Nat) (v0 : Nat) (ci0 : Nat) (vs : List Value) (r0 : vw_C) (hc : vwCl[ci0]? = some r0) (hca : Cond.castable r0.1 "java/lang/Object" ∈ kw) : kc l g yJx4a65c_add_9ea2d prog_38_method_25_code 2 (some .boolean) 1 23 0 0 [.ref h0, .ref v0] [(h0, .inr (2, [.int mc, .ref q0, .int 1])), (q0, .inl ((g.2.2.1 4), 10, .inr (.inr (.inr (.inr f))))), (v0, .inr (ci0, vs))] (fun v w => (v = some (.int 1) ∧ w = [(h0, .inr (2, [.int (mc + 1), .ref q0, .int 2])), (q0, .inl ((g.2.2.1 4), 10, .inr (.inr (.inr (.inr (va_up f 1 (some v0))))))), (v0, .inr (ci0, vs))])) (fun _ _ => False) := by
  refine kbody (by decide) (Nat.le_of_ble_eq_true rfl) ?_
  intro p e s m args below meth c A H K ht G hP hD hA hS ls hl
  have K : KB p s m meth c RJx4a65c "add" prog_38_method_25_code 2 (some .boolean) := K
  obtain ⟨hx, hb, hml, hown, hlocks, hr, hin⟩ := id K
  have hl : lv_has ls 2 [(0, .ref h0), (1, .ref v0)] := hl
  refine lv_aload_n hx hb dJx4a65c_add_9ea2d_0 rfl (lv_at hl 0 rfl) ?_
  refine lv_dup hx hb dJx4a65c_add_9ea2d_1 rfl ?_
  refine va_get (D := g.1) (ci := 2) (v := .int mc) (C := RJx4a65c) (T := TJx4a65c) (N := 3) hx hb G.ws inJx4a65c hown G.K hP 0 rfl rfl 0 (by decide) (G.w kw_310) (G.same kw_311) rfl dJx4a65c_add_9ea2d_2 ?_
  refine lv_iconst (v := 1) hx hb dJx4a65c_add_9ea2d_5 (by decide) ?_
  refine lv_iadd hx hb dJx4a65c_add_9ea2d_6 ?_
  refine va_put (D := g.1) (ci := 2) (v := .int (mc + 1)) (ty := .int) (C := RJx4a65c) (T := TJx4a65c) (N := 3) hx hb G.ws inJx4a65c tyJx4a65c tyJx4a65c_ok nmJx4a65c hown G.K hP hD hS 0 rfl rfl 0 (by decide) (G.w kw_310) (G.same kw_311) (by decide +kernel) (by decide +kernel) rfl rfl (Nat.le_of_ble_eq_true rfl) dJx4a65c_add_9ea2d_7 (fun H locs hP hD hS => ?_)
  have hP : va_P g.1 vwCl [(h0, .inr (2, [.int (mc + 1), .ref q0, .int 1])), (q0, .inl ((g.2.2.1 4), 10, .inr (.inr (.inr (.inr f))))), (v0, .inr (ci0, vs))] H := hP
  have hD : va_D A [(h0, .inr (2, [.int (mc + 1), .ref q0, .int 1])), (q0, .inl ((g.2.2.1 4), 10, .inr (.inr (.inr (.inr f))))), (v0, .inr (ci0, vs))] := hD
  refine lv_aload_n hx hb dJx4a65c_add_9ea2d_10 rfl (lv_at hl 0 rfl) ?_
  refine lv_aload_n hx hb dJx4a65c_add_9ea2d_11 rfl (lv_at hl 1 rfl) ?_
  refine lv_aload_n hx hb dJx4a65c_add_9ea2d_12 rfl (lv_at hl 0 rfl) ?_
  refine va_get (D := g.1) (ci := 2) (v := .ref q0) (C := RJx4a65c) (T := TJx4a65c) (N := 3) hx hb G.ws inJx4a65c hown G.K hP 0 rfl rfl 1 (by decide) (G.w kw_14) (fun _ h9 => h9) rfl dJx4a65c_add_9ea2d_13 ?_
  refine lv_aload_n hx hb dJx4a65c_add_9ea2d_16 rfl (lv_at hl 0 rfl) ?_
  refine va_get (D := g.1) (ci := 2) (v := .int 1) (C := RJx4a65c) (T := TJx4a65c) (N := 3) hx hb G.ws inJx4a65c hown G.K hP 0 rfl rfl 2 (by decide) (G.w kw_15) (fun _ h9 => h9) rfl dJx4a65c_add_9ea2d_17 ?_
  refine kcallV (wc := [(h0, .inr (2, [.int (mc + 1), .ref q0, .int 1])), (q0, .inl ((g.2.2.1 4), 10, .inr (.inr (.inr (.inr f))))), (v0, .inr (ci0, vs))]) (wr := []) (As := [.ref v0, .ref q0, .int 1]) (rest := []) K G (m_Jx4a65c_add_72be81 l hl0 g h0 q0 (mc + 1) f v0 ci0 vs _ hc hca) hP hD hS hA hl kw_312 kw_313 kw_314 kw_315 kw_22 ydJx4a65c_add_72be8 [0, 1, 2] [] rfl rfl rfl rfl (by decide) (ci := 2) (q0 := 0) rfl rfl rfl rfl rfl (Nat.le_of_ble_eq_true rfl) dJx4a65c_add_9ea2d_20 ⟨Nat.le_of_ble_eq_true rfl, Nat.le_of_ble_eq_true rfl⟩ ⟨Nat.le_of_ble_eq_true rfl, Nat.le_of_ble_eq_true rfl⟩ (fun _ _ _ _ _ _ hX _ _ _ _ _ _ => hX.elim) (fun v w1 H locs hQ hP hD hS => ?_)
  obtain ⟨rfl, rfl⟩ := hQ
  have hP : va_P g.1 vwCl [(h0, .inr (2, [.int (mc + 1), .ref q0, .int 2])), (q0, .inl ((g.2.2.1 4), 10, .inr (.inr (.inr (.inr (va_up f 1 (some v0))))))), (v0, .inr (ci0, vs))] H := hP
  have hD : va_D A [(h0, .inr (2, [.int (mc + 1), .ref q0, .int 2])), (q0, .inl ((g.2.2.1 4), 10, .inr (.inr (.inr (.inr (va_up f 1 (some v0))))))), (v0, .inr (ci0, vs))] := hD
  refine W.widen (k := 0) (n := 0) (by decide) (by decide) ?_
  refine W.eq (g2 := F0 m 23 ls []) rfl ?_
  refine lv_iconst (v := 1) hx hb dJx4a65c_add_9ea2d_23 (by decide) ?_
  exact kretZ K hP hD hS [0, 1, 2] [(h0, .inr (2, [.int (mc + 1), .ref q0, .int 2])), (q0, .inl ((g.2.2.1 4), 10, .inr (.inr (.inr (.inr (va_up f 1 (some v0))))))), (v0, .inr (ci0, vs))] rfl rfl (⟨rfl, rfl⟩) (by decide) (by decide) dJx4a65c_add_9ea2d_24

set_option maxHeartbeats 4000000 in
set_option maxRecDepth 100000 in
theorem m_Jx4a65c_add_72be82 (l : Launch) (hl0 : l.stackTraces = false) (g : kG) (h0 : Nat) (q0 : Nat) (mc : Int32) (f : Nat → Option Nat) (v0 : Nat) (ci0 : Nat) (vs : List Value) (r0 : vw_C) (hc : vwCl[ci0]? = some r0) (hca : Cond.castable r0.1 "java/lang/Object" ∈ kw) : kc l g yJx4a65c_add_72be8 prog_38_method_24_code 4 none 0 0 0 0 [.ref h0, .ref v0, .ref q0, .int 2] [(h0, .inr (2, [.int mc, .ref q0, .int 2])), (q0, .inl ((g.2.2.1 4), 10, .inr (.inr (.inr (.inr f))))), (v0, .inr (ci0, vs))] (fun v w => (v = none ∧ w = [(h0, .inr (2, [.int mc, .ref q0, .int 3])), (q0, .inl ((g.2.2.1 4), 10, .inr (.inr (.inr (.inr (va_up f 2 (some v0))))))), (v0, .inr (ci0, vs))])) (fun _ _ => False) := by
  refine kbody (by decide) (Nat.le_of_ble_eq_true rfl) ?_
  intro p e s m args below meth c A H K ht G hP hD hA hS ls hl
  have K : KB p s m meth c RJx4a65c "add" prog_38_method_24_code 4 none := K
  obtain ⟨hx, hb, hml, hown, hlocks, hr, hin⟩ := id K
  have hl : lv_has ls 4 [(0, .ref h0), (1, .ref v0), (2, .ref q0), (3, .int 2)] := hl
  refine lv_iload_n hx hb dJx4a65c_add_72be8_0 rfl (lv_at hl 3 rfl) ?_
  refine lv_aload_n hx hb dJx4a65c_add_72be8_1 rfl (lv_at hl 2 rfl) ?_
  refine va_alen (v := 10) hx hb G.K hP 1 4 rfl rfl (by first | decide | rfl) dJx4a65c_add_72be8_2 ?_
  refine lv_icmp_ne (tgt := 11) hx hb dJx4a65c_add_72be8_3 (by decide) (fun _ => ?_) (fun c3_1 => absurd c3_1 (by decide))
  refine lv_aload_n hx hb dJx4a65c_add_72be8_11 rfl (lv_at hl 2 rfl) ?_
  refine lv_iload_n hx hb dJx4a65c_add_72be8_12 rfl (lv_at hl 3 rfl) ?_
  refine lv_aload_n hx hb dJx4a65c_add_72be8_13 rfl (lv_at hl 1 rfl) ?_
  refine va_astqO (E := "java/lang/Object") hx hb G.K hP hD hS 1 4 2 ci0 rfl rfl (G.nw hca) rfl hc (i := 2) (vp_in_iff.mpr ⟨by decide, by decide⟩) dJx4a65c_add_72be8_14 (fun H locs hP hD hS => ?_)
  have hP : va_P g.1 vwCl [(h0, .inr (2, [.int mc, .ref q0, .int 2])), (q0, .inl ((g.2.2.1 4), 10, .inr (.inr (.inr (.inr (va_up f (2 : Int32).toNatClampNeg (some v0))))))), (v0, .inr (ci0, vs))] H := hP
  have hD : va_D A [(h0, .inr (2, [.int mc, .ref q0, .int 2])), (q0, .inl ((g.2.2.1 4), 10, .inr (.inr (.inr (.inr (va_up f (2 : Int32).toNatClampNeg (some v0))))))), (v0, .inr (ci0, vs))] := hD
  have hP : va_P g.1 vwCl [(h0, .inr (2, [.int mc, .ref q0, .int 2])), (q0, .inl ((g.2.2.1 4), 10, .inr (.inr (.inr (.inr (va_up f 2 (some v0))))))), (v0, .inr (ci0, vs))] H := hP
  have hD : va_D A [(h0, .inr (2, [.int mc, .ref q0, .int 2])), (q0, .inl ((g.2.2.1 4), 10, .inr (.inr (.inr (.inr (va_up f 2 (some v0))))))), (v0, .inr (ci0, vs))] := hD
  refine lv_aload_n hx hb dJx4a65c_add_72be8_15 rfl (lv_at hl 0 rfl) ?_
  refine lv_iload_n hx hb dJx4a65c_add_72be8_16 rfl (lv_at hl 3 rfl) ?_
  refine lv_iconst (v := 1) hx hb dJx4a65c_add_72be8_17 (by decide) ?_
  refine lv_iadd hx hb dJx4a65c_add_72be8_18 ?_
  refine lv_topi (fun y_2 ey_2 => ?_)
  obtain rfl : y_2 = 3 := ey_2.trans (by decide)
  refine va_put (D := g.1) (ci := 2) (v := .int 3) (ty := .int) (C := RJx4a65c) (T := TJx4a65c) (N := 3) hx hb G.ws inJx4a65c tyJx4a65c tyJx4a65c_ok nmJx4a65c hown G.K hP hD hS 0 rfl rfl 2 (by decide) (G.w kw_15) (fun _ h9 => h9) (by decide +kernel) (by decide +kernel) rfl rfl (Nat.le_of_ble_eq_true rfl) dJx4a65c_add_72be8_19 (fun H locs hP hD hS => ?_)
  have hP : va_P g.1 vwCl [(h0, .inr (2, [.int mc, .ref q0, .int 3])), (q0, .inl ((g.2.2.1 4), 10, .inr (.inr (.inr (.inr (va_up f 2 (some v0))))))), (v0, .inr (ci0, vs))] H := hP
  have hD : va_D A [(h0, .inr (2, [.int mc, .ref q0, .int 3])), (q0, .inl ((g.2.2.1 4), 10, .inr (.inr (.inr (.inr (va_up f 2 (some v0))))))), (v0, .inr (ci0, vs))] := hD
  exact kretV K hP hD hS [0, 1, 2] [(h0, .inr (2, [.int mc, .ref q0, .int 3])), (q0, .inl ((g.2.2.1 4), 10, .inr (.inr (.inr (.inr (va_up f 2 (some v0))))))), (v0, .inr (ci0, vs))] rfl rfl (⟨rfl, rfl⟩) (by decide) (by decide) dJx4a65c_add_72be8_22

set_option maxHeartbeats 4000000 in
set_option maxRecDepth 100000 in
theorem m_Jx4a65c_add_9ea2d2 (l : Launch) (hl0 : l.stackTraces = false) (g : kG) (h0 : Nat) (q0 : Nat) (mc : Int32) (f : Nat → Option Nat) (v0 : Nat) (ci0 : Nat) (vs : List Value) (r0 : vw_C) (hc : vwCl[ci0]? = some r0) (hca : Cond.castable r0.1 "java/lang/Object" ∈ kw) : kc l g yJx4a65c_add_9ea2d prog_38_method_25_code 2 (some .boolean) 1 23 0 0 [.ref h0, .ref v0] [(h0, .inr (2, [.int mc, .ref q0, .int 2])), (q0, .inl ((g.2.2.1 4), 10, .inr (.inr (.inr (.inr f))))), (v0, .inr (ci0, vs))] (fun v w => (v = some (.int 1) ∧ w = [(h0, .inr (2, [.int (mc + 1), .ref q0, .int 3])), (q0, .inl ((g.2.2.1 4), 10, .inr (.inr (.inr (.inr (va_up f 2 (some v0))))))), (v0, .inr (ci0, vs))])) (fun _ _ => False) := by
  refine kbody (by decide) (Nat.le_of_ble_eq_true rfl) ?_
  intro p e s m args below meth c A H K ht G hP hD hA hS ls hl
  have K : KB p s m meth c RJx4a65c "add" prog_38_method_25_code 2 (some .boolean) := K
  obtain ⟨hx, hb, hml, hown, hlocks, hr, hin⟩ := id K
  have hl : lv_has ls 2 [(0, .ref h0), (1, .ref v0)] := hl
  refine lv_aload_n hx hb dJx4a65c_add_9ea2d_0 rfl (lv_at hl 0 rfl) ?_
  refine lv_dup hx hb dJx4a65c_add_9ea2d_1 rfl ?_
  refine va_get (D := g.1) (ci := 2) (v := .int mc) (C := RJx4a65c) (T := TJx4a65c) (N := 3) hx hb G.ws inJx4a65c hown G.K hP 0 rfl rfl 0 (by decide) (G.w kw_310) (G.same kw_311) rfl dJx4a65c_add_9ea2d_2 ?_
  refine lv_iconst (v := 1) hx hb dJx4a65c_add_9ea2d_5 (by decide) ?_
  refine lv_iadd hx hb dJx4a65c_add_9ea2d_6 ?_
  refine va_put (D := g.1) (ci := 2) (v := .int (mc + 1)) (ty := .int) (C := RJx4a65c) (T := TJx4a65c) (N := 3) hx hb G.ws inJx4a65c tyJx4a65c tyJx4a65c_ok nmJx4a65c hown G.K hP hD hS 0 rfl rfl 0 (by decide) (G.w kw_310) (G.same kw_311) (by decide +kernel) (by decide +kernel) rfl rfl (Nat.le_of_ble_eq_true rfl) dJx4a65c_add_9ea2d_7 (fun H locs hP hD hS => ?_)
  have hP : va_P g.1 vwCl [(h0, .inr (2, [.int (mc + 1), .ref q0, .int 2])), (q0, .inl ((g.2.2.1 4), 10, .inr (.inr (.inr (.inr f))))), (v0, .inr (ci0, vs))] H := hP
  have hD : va_D A [(h0, .inr (2, [.int (mc + 1), .ref q0, .int 2])), (q0, .inl ((g.2.2.1 4), 10, .inr (.inr (.inr (.inr f))))), (v0, .inr (ci0, vs))] := hD
  refine lv_aload_n hx hb dJx4a65c_add_9ea2d_10 rfl (lv_at hl 0 rfl) ?_
  refine lv_aload_n hx hb dJx4a65c_add_9ea2d_11 rfl (lv_at hl 1 rfl) ?_
  refine lv_aload_n hx hb dJx4a65c_add_9ea2d_12 rfl (lv_at hl 0 rfl) ?_
  refine va_get (D := g.1) (ci := 2) (v := .ref q0) (C := RJx4a65c) (T := TJx4a65c) (N := 3) hx hb G.ws inJx4a65c hown G.K hP 0 rfl rfl 1 (by decide) (G.w kw_14) (fun _ h9 => h9) rfl dJx4a65c_add_9ea2d_13 ?_
  refine lv_aload_n hx hb dJx4a65c_add_9ea2d_16 rfl (lv_at hl 0 rfl) ?_
  refine va_get (D := g.1) (ci := 2) (v := .int 2) (C := RJx4a65c) (T := TJx4a65c) (N := 3) hx hb G.ws inJx4a65c hown G.K hP 0 rfl rfl 2 (by decide) (G.w kw_15) (fun _ h9 => h9) rfl dJx4a65c_add_9ea2d_17 ?_
  refine kcallV (wc := [(h0, .inr (2, [.int (mc + 1), .ref q0, .int 2])), (q0, .inl ((g.2.2.1 4), 10, .inr (.inr (.inr (.inr f))))), (v0, .inr (ci0, vs))]) (wr := []) (As := [.ref v0, .ref q0, .int 2]) (rest := []) K G (m_Jx4a65c_add_72be82 l hl0 g h0 q0 (mc + 1) f v0 ci0 vs _ hc hca) hP hD hS hA hl kw_312 kw_313 kw_314 kw_315 kw_22 ydJx4a65c_add_72be8 [0, 1, 2] [] rfl rfl rfl rfl (by decide) (ci := 2) (q0 := 0) rfl rfl rfl rfl rfl (Nat.le_of_ble_eq_true rfl) dJx4a65c_add_9ea2d_20 ⟨Nat.le_of_ble_eq_true rfl, Nat.le_of_ble_eq_true rfl⟩ ⟨Nat.le_of_ble_eq_true rfl, Nat.le_of_ble_eq_true rfl⟩ (fun _ _ _ _ _ _ hX _ _ _ _ _ _ => hX.elim) (fun v w1 H locs hQ hP hD hS => ?_)
  obtain ⟨rfl, rfl⟩ := hQ
  have hP : va_P g.1 vwCl [(h0, .inr (2, [.int (mc + 1), .ref q0, .int 3])), (q0, .inl ((g.2.2.1 4), 10, .inr (.inr (.inr (.inr (va_up f 2 (some v0))))))), (v0, .inr (ci0, vs))] H := hP
  have hD : va_D A [(h0, .inr (2, [.int (mc + 1), .ref q0, .int 3])), (q0, .inl ((g.2.2.1 4), 10, .inr (.inr (.inr (.inr (va_up f 2 (some v0))))))), (v0, .inr (ci0, vs))] := hD
  refine W.widen (k := 0) (n := 0) (by decide) (by decide) ?_
  refine W.eq (g2 := F0 m 23 ls []) rfl ?_
  refine lv_iconst (v := 1) hx hb dJx4a65c_add_9ea2d_23 (by decide) ?_
  exact kretZ K hP hD hS [0, 1, 2] [(h0, .inr (2, [.int (mc + 1), .ref q0, .int 3])), (q0, .inl ((g.2.2.1 4), 10, .inr (.inr (.inr (.inr (va_up f 2 (some v0))))))), (v0, .inr (ci0, vs))] rfl rfl (⟨rfl, rfl⟩) (by decide) (by decide) dJx4a65c_add_9ea2d_24

set_option maxHeartbeats 4000000 in
set_option maxRecDepth 100000 in
theorem m_X0_init (l : Launch) (hl0 : l.stackTraces = false) (g : kG) (h0 : Nat) (x0 : Int32) (x1 : Int32)  : kc l g yX0_init prog_2_method_1_code 3 none 1 20 0 0 [.ref h0, .int x0, .int x1] [(h0, .inr (3, [.int 0, .int 0, .int 0, .int 0, .int 0]))] (fun v w => (v = none ∧ w = [(h0, .inr (3, [.int x0, .int x1, .int 0, .int 0, .int 0]))])) (fun _ _ => False) := by
  refine kbody (by decide) (Nat.le_of_ble_eq_true rfl) ?_
  intro p e s m args below meth c A H K ht G hP hD hA hS ls hl
  have K : KB p s m meth c RX0 "<init>" prog_2_method_1_code 3 none := K
  obtain ⟨hx, hb, hml, hown, hlocks, hr, hin⟩ := id K
  have hl : lv_has ls 3 [(0, .ref h0), (1, .int x0), (2, .int x1)] := hl
  refine lv_aload_n hx hb dX0_init_0 rfl (lv_at hl 0 rfl) ?_
  refine W.objInit hx hb hown (G.w kw_316) (G.w kw_288) (G.w kw_289) rfl (by rw [hml]; exact hl.1) rfl dX0_init_1 (Nat.le_of_ble_eq_true rfl) (Nat.le_of_ble_eq_true rfl) ?_
  refine W.eq (g2 := F0 m 4 ls []) rfl ?_
  refine lv_aload_n hx hb dX0_init_4 rfl (lv_at hl 0 rfl) ?_
  refine lv_iload_n hx hb dX0_init_5 rfl (lv_at hl 1 rfl) ?_
  refine va_put (D := g.1) (ci := 3) (v := .int x0) (ty := .int) (C := RX0) (T := TX0) (N := 5) hx hb G.ws inX0 tyX0 tyX0_ok nmX0 hown G.K hP hD hS 0 rfl rfl 0 (by decide) (G.w kw_317) (fun _ h9 => h9) (by decide +kernel) (by decide +kernel) rfl rfl (Nat.le_of_ble_eq_true rfl) dX0_init_6 (fun H locs hP hD hS => ?_)
  have hP : va_P g.1 vwCl [(h0, .inr (3, [.int x0, .int 0, .int 0, .int 0, .int 0]))] H := hP
  have hD : va_D A [(h0, .inr (3, [.int x0, .int 0, .int 0, .int 0, .int 0]))] := hD
  refine lv_aload_n hx hb dX0_init_9 rfl (lv_at hl 0 rfl) ?_
  refine lv_iload_n hx hb dX0_init_10 rfl (lv_at hl 2 rfl) ?_
  refine va_put (D := g.1) (ci := 3) (v := .int x1) (ty := .int) (C := RX0) (T := TX0) (N := 5) hx hb G.ws inX0 tyX0 tyX0_ok nmX0 hown G.K hP hD hS 0 rfl rfl 1 (by decide) (G.w kw_318) (fun _ h9 => h9) (by decide +kernel) (by decide +kernel) rfl rfl (Nat.le_of_ble_eq_true rfl) dX0_init_11 (fun H locs hP hD hS => ?_)
  have hP : va_P g.1 vwCl [(h0, .inr (3, [.int x0, .int x1, .int 0, .int 0, .int 0]))] H := hP
  have hD : va_D A [(h0, .inr (3, [.int x0, .int x1, .int 0, .int 0, .int 0]))] := hD
  exact kretV K hP hD hS [0] [(h0, .inr (3, [.int x0, .int x1, .int 0, .int 0, .int 0]))] rfl rfl (⟨rfl, rfl⟩) (by decide) (by decide) dX0_init_14

set_option maxHeartbeats 4000000 in
set_option maxRecDepth 100000 in
theorem m_X9_init (l : Launch) (hl0 : l.stackTraces = false) (g : kG) (h0 : Nat)  : kc l g yX9_init prog_11_method_1_code 1 none 1 20 0 0 [.ref h0] [(h0, .inr (11, [.int 0, .int 0, .int 0, .int 0]))] (fun v w => (v = none ∧ w = [(h0, .inr (11, [.int 0, .int 0, .int 0, .int 0]))])) (fun _ _ => False) := by
  refine kbody (by decide) (Nat.le_of_ble_eq_true rfl) ?_
  intro p e s m args below meth c A H K ht G hP hD hA hS ls hl
  have K : KB p s m meth c RX9 "<init>" prog_11_method_1_code 1 none := K
  obtain ⟨hx, hb, hml, hown, hlocks, hr, hin⟩ := id K
  have hl : lv_has ls 1 [(0, .ref h0)] := hl
  refine lv_aload_n hx hb dX9_init_0 rfl (lv_at hl 0 rfl) ?_
  refine W.objInit hx hb hown (G.w kw_319) (G.w kw_288) (G.w kw_289) rfl (by rw [hml]; exact hl.1) rfl dX9_init_1 (Nat.le_of_ble_eq_true rfl) (Nat.le_of_ble_eq_true rfl) ?_
  refine W.eq (g2 := F0 m 4 ls []) rfl ?_
  exact kretV K hP hD hS [0] [(h0, .inr (11, [.int 0, .int 0, .int 0, .int 0]))] rfl rfl (⟨rfl, rfl⟩) (by decide) (by decide) dX9_init_4

set_option maxHeartbeats 4000000 in
set_option maxRecDepth 100000 in
theorem m_X2_init (l : Launch) (hl0 : l.stackTraces = false) (g : kG) (h0 : Nat) (x0 : Int32) (x1 : Int32)  : kc l g yX2_init prog_4_method_1_code 3 none 1 20 0 0 [.ref h0, .int x0, .int x1] [(h0, .inr (5, [.int 0, .int 0, .int 0, .int 0]))] (fun v w => (v = none ∧ w = [(h0, .inr (5, [.int x0, .int x1, .int 0, .int 0]))])) (fun _ _ => False) := by
  refine kbody (by decide) (Nat.le_of_ble_eq_true rfl) ?_
  intro p e s m args below meth c A H K ht G hP hD hA hS ls hl
  have K : KB p s m meth c RX2 "<init>" prog_4_method_1_code 3 none := K
  obtain ⟨hx, hb, hml, hown, hlocks, hr, hin⟩ := id K
  have hl : lv_has ls 3 [(0, .ref h0), (1, .int x0), (2, .int x1)] := hl
  refine lv_aload_n hx hb dX2_init_0 rfl (lv_at hl 0 rfl) ?_
  refine W.objInit hx hb hown (G.w kw_320) (G.w kw_288) (G.w kw_289) rfl (by rw [hml]; exact hl.1) rfl dX2_init_1 (Nat.le_of_ble_eq_true rfl) (Nat.le_of_ble_eq_true rfl) ?_
  refine W.eq (g2 := F0 m 4 ls []) rfl ?_
  refine lv_aload_n hx hb dX2_init_4 rfl (lv_at hl 0 rfl) ?_
  refine lv_iload_n hx hb dX2_init_5 rfl (lv_at hl 1 rfl) ?_
  refine va_putF (D := g.1) (ci := 5) (v := .int x0) (ty := .int) (C := RX2) (T := TX2) (N := 4) hx hb G.ws inX2 tyX2 tyX2_ok nmX2 hown G.K hP hD hS 0 rfl rfl 0 (by decide) (G.w kw_28) (fun _ h9 => h9) rfl hin rfl (by decide +kernel) rfl rfl (Nat.le_of_ble_eq_true rfl) dX2_init_6 (fun H locs hP hD hS => ?_)
  have hP : va_P g.1 vwCl [(h0, .inr (5, [.int x0, .int 0, .int 0, .int 0]))] H := hP
  have hD : va_D A [(h0, .inr (5, [.int x0, .int 0, .int 0, .int 0]))] := hD
  refine lv_aload_n hx hb dX2_init_9 rfl (lv_at hl 0 rfl) ?_
  refine lv_iload_n hx hb dX2_init_10 rfl (lv_at hl 2 rfl) ?_
  refine va_putF (D := g.1) (ci := 5) (v := .int x1) (ty := .int) (C := RX2) (T := TX2) (N := 4) hx hb G.ws inX2 tyX2 tyX2_ok nmX2 hown G.K hP hD hS 0 rfl rfl 1 (by decide) (G.w kw_27) (fun _ h9 => h9) rfl hin rfl (by decide +kernel) rfl rfl (Nat.le_of_ble_eq_true rfl) dX2_init_11 (fun H locs hP hD hS => ?_)
  have hP : va_P g.1 vwCl [(h0, .inr (5, [.int x0, .int x1, .int 0, .int 0]))] H := hP
  have hD : va_D A [(h0, .inr (5, [.int x0, .int x1, .int 0, .int 0]))] := hD
  exact kretV K hP hD hS [0] [(h0, .inr (5, [.int x0, .int x1, .int 0, .int 0]))] rfl rfl (⟨rfl, rfl⟩) (by decide) (by decide) dX2_init_14

set_option maxHeartbeats 4000000 in
set_option maxRecDepth 100000 in
theorem m_X5_init (l : Launch) (hl0 : l.stackTraces = false) (g : kG) (h0 : Nat) (x0 : Int32)  : kc l g yX5_init prog_7_method_1_code 3 none 1 20 0 0 [.ref h0, .int x0, .int 0] [(h0, .inr (8, [.int 0, .int 0, .int 0, .int 0, .int 0]))] (fun v w => (v = none ∧ w = [(h0, .inr (8, [.int x0, .int 0, .int (-1), .int 0, .int (-1)]))])) (fun _ _ => False) := by
  refine kbody (by decide) (Nat.le_of_ble_eq_true rfl) ?_
  intro p e s m args below meth c A H K ht G hP hD hA hS ls hl
  have K : KB p s m meth c RX5 "<init>" prog_7_method_1_code 3 none := K
  obtain ⟨hx, hb, hml, hown, hlocks, hr, hin⟩ := id K
  have hl : lv_has ls 3 [(0, .ref h0), (1, .int x0), (2, .int 0)] := hl
  refine lv_aload_n hx hb dX5_init_0 rfl (lv_at hl 0 rfl) ?_
  refine W.objInit hx hb hown (G.w kw_321) (G.w kw_288) (G.w kw_289) rfl (by rw [hml]; exact hl.1) rfl dX5_init_1 (Nat.le_of_ble_eq_true rfl) (Nat.le_of_ble_eq_true rfl) ?_
  refine W.eq (g2 := F0 m 4 ls []) rfl ?_
  refine lv_aload_n hx hb dX5_init_4 rfl (lv_at hl 0 rfl) ?_
  refine lv_iload_n hx hb dX5_init_5 rfl (lv_at hl 1 rfl) ?_
  refine va_putF (D := g.1) (ci := 8) (v := .int x0) (ty := .int) (C := RX5) (T := TX5) (N := 5) hx hb G.ws inX5 tyX5 tyX5_ok nmX5 hown G.K hP hD hS 0 rfl rfl 0 (by decide) (G.w kw_322) (fun _ h9 => h9) rfl hin rfl (by decide +kernel) rfl rfl (Nat.le_of_ble_eq_true rfl) dX5_init_6 (fun H locs hP hD hS => ?_)
  have hP : va_P g.1 vwCl [(h0, .inr (8, [.int x0, .int 0, .int 0, .int 0, .int 0]))] H := hP
  have hD : va_D A [(h0, .inr (8, [.int x0, .int 0, .int 0, .int 0, .int 0]))] := hD
  refine lv_aload_n hx hb dX5_init_9 rfl (lv_at hl 0 rfl) ?_
  refine lv_iload_n hx hb dX5_init_10 rfl (lv_at hl 2 rfl) ?_
  refine va_putF (D := g.1) (ci := 8) (v := .int 0) (ty := .boolean) (C := RX5) (T := TX5) (N := 5) hx hb G.ws inX5 tyX5 tyX5_ok nmX5 hown G.K hP hD hS 0 rfl rfl 1 (by decide) (G.w kw_323) (fun _ h9 => h9) rfl hin rfl (by decide +kernel) rfl rfl (Nat.le_of_ble_eq_true rfl) dX5_init_11 (fun H locs hP hD hS => ?_)
  have hP : va_P g.1 vwCl [(h0, .inr (8, [.int x0, .int 0, .int 0, .int 0, .int 0]))] H := hP
  have hD : va_D A [(h0, .inr (8, [.int x0, .int 0, .int 0, .int 0, .int 0]))] := hD
  refine lv_aload_n hx hb dX5_init_14 rfl (lv_at hl 0 rfl) ?_
  refine lv_iconst (v := (-1)) hx hb dX5_init_15 (by decide) ?_
  refine va_put (D := g.1) (ci := 8) (v := .int (-1)) (ty := .int) (C := RX5) (T := TX5) (N := 5) hx hb G.ws inX5 tyX5 tyX5_ok nmX5 hown G.K hP hD hS 0 rfl rfl 2 (by decide) (G.w kw_324) (fun _ h9 => h9) (by decide +kernel) (by decide +kernel) rfl rfl (Nat.le_of_ble_eq_true rfl) dX5_init_16 (fun H locs hP hD hS => ?_)
  have hP : va_P g.1 vwCl [(h0, .inr (8, [.int x0, .int 0, .int (-1), .int 0, .int 0]))] H := hP
  have hD : va_D A [(h0, .inr (8, [.int x0, .int 0, .int (-1), .int 0, .int 0]))] := hD
  refine lv_aload_n hx hb dX5_init_19 rfl (lv_at hl 0 rfl) ?_
  refine lv_iconst (v := (-1)) hx hb dX5_init_20 (by decide) ?_
  refine va_put (D := g.1) (ci := 8) (v := .int (-1)) (ty := .int) (C := RX5) (T := TX5) (N := 5) hx hb G.ws inX5 tyX5 tyX5_ok nmX5 hown G.K hP hD hS 0 rfl rfl 4 (by decide) (G.w kw_325) (fun _ h9 => h9) (by decide +kernel) (by decide +kernel) rfl rfl (Nat.le_of_ble_eq_true rfl) dX5_init_21 (fun H locs hP hD hS => ?_)
  have hP : va_P g.1 vwCl [(h0, .inr (8, [.int x0, .int 0, .int (-1), .int 0, .int (-1)]))] H := hP
  have hD : va_D A [(h0, .inr (8, [.int x0, .int 0, .int (-1), .int 0, .int (-1)]))] := hD
  exact kretV K hP hD hS [0] [(h0, .inr (8, [.int x0, .int 0, .int (-1), .int 0, .int (-1)]))] rfl rfl (⟨rfl, rfl⟩) (by decide) (by decide) dX5_init_24

set_option maxHeartbeats 4000000 in
set_option maxRecDepth 100000 in
theorem m_X10_init (l : Launch) (hl0 : l.stackTraces = false) (g : kG) (h0 : Nat) (x0 : Int32) (x1 : Int32) (x2 : Int32) (x3 : Int32)  : kc l g yX10_init prog_12_method_1_code 5 none 1 20 0 0 [.ref h0, .int x0, .int x1, .int x2, .int x3] [(h0, .inr (12, [.int 0, .int 0, .int 0, .int 0, .int 0]))] (fun v w => (v = none ∧ w = [(h0, .inr (12, [.int x0, .int x1, .int x2, .int x3, .int (-1)]))])) (fun _ _ => False) := by
  refine kbody (by decide) (Nat.le_of_ble_eq_true rfl) ?_
  intro p e s m args below meth c A H K ht G hP hD hA hS ls hl
  have K : KB p s m meth c RX10 "<init>" prog_12_method_1_code 5 none := K
  obtain ⟨hx, hb, hml, hown, hlocks, hr, hin⟩ := id K
  have hl : lv_has ls 5 [(0, .ref h0), (1, .int x0), (2, .int x1), (3, .int x2), (4, .int x3)] := hl
  refine lv_aload_n hx hb dX10_init_0 rfl (lv_at hl 0 rfl) ?_
  refine W.objInit hx hb hown (G.w kw_326) (G.w kw_288) (G.w kw_289) rfl (by rw [hml]; exact hl.1) rfl dX10_init_1 (Nat.le_of_ble_eq_true rfl) (Nat.le_of_ble_eq_true rfl) ?_
  refine W.eq (g2 := F0 m 4 ls []) rfl ?_
  refine lv_aload_n hx hb dX10_init_4 rfl (lv_at hl 0 rfl) ?_
  refine lv_iload_n hx hb dX10_init_5 rfl (lv_at hl 1 rfl) ?_
  refine va_putF (D := g.1) (ci := 12) (v := .int x0) (ty := .int) (C := RX10) (T := TX10) (N := 5) hx hb G.ws inX10 tyX10 tyX10_ok nmX10 hown G.K hP hD hS 0 rfl rfl 0 (by decide) (G.w kw_327) (fun _ h9 => h9) rfl hin rfl (by decide +kernel) rfl rfl (Nat.le_of_ble_eq_true rfl) dX10_init_6 (fun H locs hP hD hS => ?_)
  have hP : va_P g.1 vwCl [(h0, .inr (12, [.int x0, .int 0, .int 0, .int 0, .int 0]))] H := hP
  have hD : va_D A [(h0, .inr (12, [.int x0, .int 0, .int 0, .int 0, .int 0]))] := hD
  refine lv_aload_n hx hb dX10_init_9 rfl (lv_at hl 0 rfl) ?_
  refine lv_iload_n hx hb dX10_init_10 rfl (lv_at hl 2 rfl) ?_
  refine va_putF (D := g.1) (ci := 12) (v := .int x1) (ty := .int) (C := RX10) (T := TX10) (N := 5) hx hb G.ws inX10 tyX10 tyX10_ok nmX10 hown G.K hP hD hS 0 rfl rfl 1 (by decide) (G.w kw_328) (fun _ h9 => h9) rfl hin rfl (by decide +kernel) rfl rfl (Nat.le_of_ble_eq_true rfl) dX10_init_11 (fun H locs hP hD hS => ?_)
  have hP : va_P g.1 vwCl [(h0, .inr (12, [.int x0, .int x1, .int 0, .int 0, .int 0]))] H := hP
  have hD : va_D A [(h0, .inr (12, [.int x0, .int x1, .int 0, .int 0, .int 0]))] := hD
  refine lv_aload_n hx hb dX10_init_14 rfl (lv_at hl 0 rfl) ?_
  refine lv_iload_n hx hb dX10_init_15 rfl (lv_at hl 3 rfl) ?_
  refine va_putF (D := g.1) (ci := 12) (v := .int x2) (ty := .int) (C := RX10) (T := TX10) (N := 5) hx hb G.ws inX10 tyX10 tyX10_ok nmX10 hown G.K hP hD hS 0 rfl rfl 2 (by decide) (G.w kw_329) (fun _ h9 => h9) rfl hin rfl (by decide +kernel) rfl rfl (Nat.le_of_ble_eq_true rfl) dX10_init_16 (fun H locs hP hD hS => ?_)
  have hP : va_P g.1 vwCl [(h0, .inr (12, [.int x0, .int x1, .int x2, .int 0, .int 0]))] H := hP
  have hD : va_D A [(h0, .inr (12, [.int x0, .int x1, .int x2, .int 0, .int 0]))] := hD
  refine lv_aload_n hx hb dX10_init_19 rfl (lv_at hl 0 rfl) ?_
  refine lv_iload hx hb dX10_init_20 (lv_at hl 4 rfl) ?_
  refine va_putF (D := g.1) (ci := 12) (v := .int x3) (ty := .int) (C := RX10) (T := TX10) (N := 5) hx hb G.ws inX10 tyX10 tyX10_ok nmX10 hown G.K hP hD hS 0 rfl rfl 3 (by decide) (G.w kw_330) (fun _ h9 => h9) rfl hin rfl (by decide +kernel) rfl rfl (Nat.le_of_ble_eq_true rfl) dX10_init_22 (fun H locs hP hD hS => ?_)
  have hP : va_P g.1 vwCl [(h0, .inr (12, [.int x0, .int x1, .int x2, .int x3, .int 0]))] H := hP
  have hD : va_D A [(h0, .inr (12, [.int x0, .int x1, .int x2, .int x3, .int 0]))] := hD
  refine lv_aload_n hx hb dX10_init_25 rfl (lv_at hl 0 rfl) ?_
  refine lv_iconst (v := (-1)) hx hb dX10_init_26 (by decide) ?_
  refine va_put (D := g.1) (ci := 12) (v := .int (-1)) (ty := .int) (C := RX10) (T := TX10) (N := 5) hx hb G.ws inX10 tyX10 tyX10_ok nmX10 hown G.K hP hD hS 0 rfl rfl 4 (by decide) (G.w kw_331) (fun _ h9 => h9) (by decide +kernel) (by decide +kernel) rfl rfl (Nat.le_of_ble_eq_true rfl) dX10_init_27 (fun H locs hP hD hS => ?_)
  have hP : va_P g.1 vwCl [(h0, .inr (12, [.int x0, .int x1, .int x2, .int x3, .int (-1)]))] H := hP
  have hD : va_D A [(h0, .inr (12, [.int x0, .int x1, .int x2, .int x3, .int (-1)]))] := hD
  exact kretV K hP hD hS [0] [(h0, .inr (12, [.int x0, .int x1, .int x2, .int x3, .int (-1)]))] rfl rfl (⟨rfl, rfl⟩) (by decide) (by decide) dX10_init_30

