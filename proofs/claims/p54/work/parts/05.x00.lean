def r_X11_isNight (x : Int32) : Int32 := (if (x - x / 24 * 24) < 6 then 1 else (if (x - x / 24 * 24) ≤ 17 then 0 else 1))
theorem z_r_X11_isNight (x : Int32)  : r_X11_isNight x = 0 ∨ r_X11_isNight x = 1 := by
  unfold r_X11_isNight
  repeat' first | with_reducible refine kz_if ?_ ?_ | with_reducible exact Or.inl rfl | with_reducible exact Or.inr rfl | with_reducible assumption
set_option maxHeartbeats 4000000 in
set_option maxRecDepth 100000 in
theorem m_X11_isNight (l : Launch) (hl0 : l.stackTraces = false) (g : kG) (x : Int32)  : kc l g yX11_isNight prog_1_method_68_code 2 (some .boolean) 0 0 0 0 [.int x] [] (fun v w => (v = some (.int (r_X11_isNight x)) ∧ w = [])) (fun _ _ => False) := by
  refine kbody (by decide) (Nat.le_of_ble_eq_true rfl) ?_
  intro p e s m args below meth c A H K ht G hP hD hA hS ls hl
  have K : KB p s m meth c RX11 "isNight" prog_1_method_68_code 2 (some .boolean) := K
  obtain ⟨hx, hb, hml, hown, hlocks, hr, hin⟩ := id K
  have hl : lv_has ls 2 [(0, .int x)] := hl
  refine lv_iload_n hx hb dX11_isNight_0 rfl (lv_at hl 0 rfl) ?_
  refine lv_bipush (v := 24) hx hb dX11_isNight_1 (by decide) ?_
  refine lv_irem hx hb dX11_isNight_3 (by decide) ?_
  refine lv_istore_n (lv' := [(1, .int (x - x / 24 * 24)), (0, .int x)]) hx hb dX11_isNight_4 rfl hl (by decide) rfl (fun ls hl => ?_)
  refine lv_iload_n hx hb dX11_isNight_5 rfl (lv_at hl 0 rfl) ?_
  refine lv_bipush (v := 6) hx hb dX11_isNight_6 (by decide) ?_
  have KJ_6 : ∀ (mv_5 : Int32) (hmv_5 : mv_5 = if (x - x / 24 * 24) < 6 then 1 else (if (x - x / 24 * 24) ≤ 17 then 0 else 1)) (H : Heap) (locs : List Loc), va_P g.1 vwCl [] H → va_D A [] → va_S A s.heap H locs → ∀ ls : Array Slot, lv_has ls 2 [(1, .int (x - x / 24 * 24)), (0, .int x)] → W p l e (kR 0 0 0 0) s m args below meth c H locs 0 0 (vx_MQ below (kQ g (fun v w => (v = some (.int (r_X11_isNight x)) ∧ w = [])) A) (kX g (fun _ _ => False) A) args s 0 0 A) (F0 m 22 ls [.int mv_5]) := by
    intro mv_5 hmv_5 H locs hP hD hS ls hl
    exact kretZ K hP hD hS [] [] rfl rfl ⟨(by first | simp only [r_X11_isNight, hmv_5] | rfl | simp [r_X11_isNight, hmv_5]), (by first | simp only [r_X11_isNight, hmv_5] | rfl | simp [r_X11_isNight, hmv_5])⟩ (by decide) (by decide) dX11_isNight_22 (kz_nar2 (by (try simp only [hmv_5]); repeat' first | with_reducible refine kz_if ?_ ?_ | with_reducible exact Or.inl rfl | with_reducible exact Or.inr rfl | with_reducible assumption | exact z_r_X11_isNight _))
  refine lv_icmp_lt (tgt := 17) hx hb dX11_isNight_8 (by decide) (fun c8_1 => ?_) (fun c8_1 => ?_)
  · refine lv_iconst (v := 1) hx hb dX11_isNight_17 (by decide) ?_
    refine lv_goto (tgt := 22) hx hb dX11_isNight_18 (by decide) ?_
    exact KJ_6 1 (by first | exact (if_pos c8_1).symm | simp only [if_pos c8_1]) _ _ (ksubP hP [] rfl) (hD.sub [] rfl rfl) hS _ (lv_sub hl [0, 1] rfl)
  · refine lv_iload_n hx hb dX11_isNight_11 rfl (lv_at hl 0 rfl) ?_
    refine lv_bipush (v := 17) hx hb dX11_isNight_12 (by decide) ?_
    have KJ_4 : ∀ (mv_3 : Int32) (hmv_3 : mv_3 = if (x - x / 24 * 24) ≤ 17 then 0 else 1) (H : Heap) (locs : List Loc), va_P g.1 vwCl [] H → va_D A [] → va_S A s.heap H locs → ∀ ls : Array Slot, lv_has ls 2 [(1, .int (x - x / 24 * 24)), (0, .int x)] → W p l e (kR 0 0 0 0) s m args below meth c H locs 0 0 (vx_MQ below (kQ g (fun v w => (v = some (.int (r_X11_isNight x)) ∧ w = [])) A) (kX g (fun _ _ => False) A) args s 0 0 A) (F0 m 22 ls [.int mv_3]) := by
      intro mv_3 hmv_3 H locs hP hD hS ls hl
      exact KJ_6 mv_3 (by first | exact (if_neg c8_1).symm | simp only [hmv_3, if_neg c8_1]) _ _ (ksubP hP [] rfl) (hD.sub [] rfl rfl) hS _ (lv_sub hl [0, 1] rfl)
    refine lv_icmp_le (tgt := 21) hx hb dX11_isNight_14 (by decide) (fun c14_2 => ?_) (fun c14_2 => ?_)
    · refine lv_iconst (v := 0) hx hb dX11_isNight_21 (by decide) ?_
      exact KJ_4 0 (by first | exact (if_pos c14_2).symm | simp only [if_pos c14_2]) _ _ (ksubP hP [] rfl) (hD.sub [] rfl rfl) hS _ (lv_sub hl [0, 1] rfl)
    · refine lv_iconst (v := 1) hx hb dX11_isNight_17 (by decide) ?_
      refine lv_goto (tgt := 22) hx hb dX11_isNight_18 (by decide) ?_
      exact KJ_4 1 (by first | exact (if_neg c14_2).symm | simp only [if_neg c14_2]) _ _ (ksubP hP [] rfl) (hD.sub [] rfl rfl) hS _ (lv_sub hl [0, 1] rfl)

def r_X11_isTape (x : Int32) : Int32 := (if x < 100 then 0 else (if 199 < x then 0 else 1))
theorem z_r_X11_isTape (x : Int32)  : r_X11_isTape x = 0 ∨ r_X11_isTape x = 1 := by
  unfold r_X11_isTape
  repeat' first | with_reducible refine kz_if ?_ ?_ | with_reducible exact Or.inl rfl | with_reducible exact Or.inr rfl | with_reducible assumption | exact z_r_X11_isNight _
set_option maxHeartbeats 4000000 in
set_option maxRecDepth 100000 in
theorem m_X11_isTape (l : Launch) (hl0 : l.stackTraces = false) (g : kG) (x : Int32)  : kc l g yX11_isTape prog_1_method_64_code 1 (some .boolean) 0 0 0 0 [.int x] [] (fun v w => (v = some (.int (r_X11_isTape x)) ∧ w = [])) (fun _ _ => False) := by
  refine kbody (by decide) (Nat.le_of_ble_eq_true rfl) ?_
  intro p e s m args below meth c A H K ht G hP hD hA hS ls hl
  have K : KB p s m meth c RX11 "isTape" prog_1_method_64_code 1 (some .boolean) := K
  obtain ⟨hx, hb, hml, hown, hlocks, hr, hin⟩ := id K
  have hl : lv_has ls 1 [(0, .int x)] := hl
  refine lv_iload_n hx hb dX11_isTape_0 rfl (lv_at hl 0 rfl) ?_
  refine lv_bipush (v := 100) hx hb dX11_isTape_1 (by decide) ?_
  have KJ_6 : ∀ (mv_5 : Int32) (hmv_5 : mv_5 = if x < 100 then 0 else (if 199 < x then 0 else 1)) (H : Heap) (locs : List Loc), va_P g.1 vwCl [] H → va_D A [] → va_S A s.heap H locs → ∀ ls : Array Slot, lv_has ls 1 [(0, .int x)] → W p l e (kR 0 0 0 0) s m args below meth c H locs 0 0 (vx_MQ below (kQ g (fun v w => (v = some (.int (r_X11_isTape x)) ∧ w = [])) A) (kX g (fun _ _ => False) A) args s 0 0 A) (F0 m 18 ls [.int mv_5]) := by
    intro mv_5 hmv_5 H locs hP hD hS ls hl
    exact kretZ K hP hD hS [] [] rfl rfl ⟨(by first | simp only [r_X11_isTape, hmv_5] | rfl | simp [r_X11_isTape, hmv_5]), (by first | simp only [r_X11_isTape, hmv_5] | rfl | simp [r_X11_isTape, hmv_5])⟩ (by decide) (by decide) dX11_isTape_18 (kz_nar2 (by (try simp only [hmv_5]); repeat' first | with_reducible refine kz_if ?_ ?_ | with_reducible exact Or.inl rfl | with_reducible exact Or.inr rfl | with_reducible assumption | exact z_r_X11_isNight _ | exact z_r_X11_isTape _))
  refine lv_icmp_lt (tgt := 17) hx hb dX11_isTape_3 (by decide) (fun c3_1 => ?_) (fun c3_1 => ?_)
  · refine lv_iconst (v := 0) hx hb dX11_isTape_17 (by decide) ?_
    exact KJ_6 0 (by first | exact (if_pos c3_1).symm | simp only [if_pos c3_1]) _ _ (ksubP hP [] rfl) (hD.sub [] rfl rfl) hS _ (lv_sub hl [0] rfl)
  · refine lv_iload_n hx hb dX11_isTape_6 rfl (lv_at hl 0 rfl) ?_
    refine lv_sipush (v := 199) hx hb dX11_isTape_7 (by decide) ?_
    have KJ_4 : ∀ (mv_3 : Int32) (hmv_3 : mv_3 = if 199 < x then 0 else 1) (H : Heap) (locs : List Loc), va_P g.1 vwCl [] H → va_D A [] → va_S A s.heap H locs → ∀ ls : Array Slot, lv_has ls 1 [(0, .int x)] → W p l e (kR 0 0 0 0) s m args below meth c H locs 0 0 (vx_MQ below (kQ g (fun v w => (v = some (.int (r_X11_isTape x)) ∧ w = [])) A) (kX g (fun _ _ => False) A) args s 0 0 A) (F0 m 18 ls [.int mv_3]) := by
      intro mv_3 hmv_3 H locs hP hD hS ls hl
      exact KJ_6 mv_3 (by first | exact (if_neg c3_1).symm | simp only [hmv_3, if_neg c3_1]) _ _ (ksubP hP [] rfl) (hD.sub [] rfl rfl) hS _ (lv_sub hl [0] rfl)
    refine lv_icmp_gt (tgt := 17) hx hb dX11_isTape_10 (by decide) (fun c10_2 => ?_) (fun c10_2 => ?_)
    · refine lv_iconst (v := 0) hx hb dX11_isTape_17 (by decide) ?_
      exact KJ_4 0 (by first | exact (if_pos c10_2).symm | simp only [if_pos c10_2]) _ _ (ksubP hP [] rfl) (hD.sub [] rfl rfl) hS _ (lv_sub hl [0] rfl)
    · refine lv_iconst (v := 1) hx hb dX11_isTape_13 (by decide) ?_
      refine lv_goto (tgt := 18) hx hb dX11_isTape_14 (by decide) ?_
      exact KJ_4 1 (by first | exact (if_neg c10_2).symm | simp only [if_neg c10_2]) _ _ (ksubP hP [] rfl) (hD.sub [] rfl rfl) hS _ (lv_sub hl [0] rfl)

def r_X11_holdOf (x : Int32) : Int32 := (if x = 115 then 8 else (if x = 109 then 6 else (if x = 114 then 4 else 0)))
set_option maxHeartbeats 4000000 in
set_option maxRecDepth 100000 in
theorem m_X11_holdOf (l : Launch) (hl0 : l.stackTraces = false) (g : kG) (x : Int32)  : kc l g yX11_holdOf prog_1_method_65_code 1 (some .int) 0 0 0 0 [.int x] [] (fun v w => (v = some (.int (r_X11_holdOf x)) ∧ w = [])) (fun _ _ => False) := by
  refine kbody (by decide) (Nat.le_of_ble_eq_true rfl) ?_
  intro p e s m args below meth c A H K ht G hP hD hA hS ls hl
  have K : KB p s m meth c RX11 "holdOf" prog_1_method_65_code 1 (some .int) := K
  obtain ⟨hx, hb, hml, hown, hlocks, hr, hin⟩ := id K
  have hl : lv_has ls 1 [(0, .int x)] := hl
  refine lv_iload_n hx hb dX11_holdOf_0 rfl (lv_at hl 0 rfl) ?_
  refine lv_bipush (v := 115) hx hb dX11_holdOf_1 (by decide) ?_
  have KJ_9 : ∀ (mv_8 : Int32) (hmv_8 : mv_8 = if x = 115 then 8 else (if x = 109 then 6 else (if x = 114 then 4 else 0))) (H : Heap) (locs : List Loc), va_P g.1 vwCl [] H → va_D A [] → va_S A s.heap H locs → ∀ ls : Array Slot, lv_has ls 1 [(0, .int x)] → W p l e (kR 0 0 0 0) s m args below meth c H locs 0 0 (vx_MQ below (kQ g (fun v w => (v = some (.int (r_X11_holdOf x)) ∧ w = [])) A) (kX g (fun _ _ => False) A) args s 0 0 A) (F0 m 33 ls [.int mv_8]) := by
    intro mv_8 hmv_8 H locs hP hD hS ls hl
    exact kretI K hP hD hS [] [] rfl rfl ⟨(by first | simp only [r_X11_holdOf, hmv_8] | rfl | simp [r_X11_holdOf, hmv_8]), (by first | simp only [r_X11_holdOf, hmv_8] | rfl | simp [r_X11_holdOf, hmv_8])⟩ (by decide) (by decide) dX11_holdOf_33
  refine lv_icmp_ne (tgt := 11) hx hb dX11_holdOf_3 (by decide) (fun c3_1 => ?_) (fun c3_1 => ?_)
  · refine lv_iload_n hx hb dX11_holdOf_11 rfl (lv_at hl 0 rfl) ?_
    refine lv_bipush (v := 109) hx hb dX11_holdOf_12 (by decide) ?_
    have KJ_7 : ∀ (mv_6 : Int32) (hmv_6 : mv_6 = if x = 109 then 6 else (if x = 114 then 4 else 0)) (H : Heap) (locs : List Loc), va_P g.1 vwCl [] H → va_D A [] → va_S A s.heap H locs → ∀ ls : Array Slot, lv_has ls 1 [(0, .int x)] → W p l e (kR 0 0 0 0) s m args below meth c H locs 0 0 (vx_MQ below (kQ g (fun v w => (v = some (.int (r_X11_holdOf x)) ∧ w = [])) A) (kX g (fun _ _ => False) A) args s 0 0 A) (F0 m 33 ls [.int mv_6]) := by
      intro mv_6 hmv_6 H locs hP hD hS ls hl
      exact KJ_9 mv_6 (by first | exact (if_neg c3_1).symm | simp only [hmv_6, if_neg c3_1]) _ _ (ksubP hP [] rfl) (hD.sub [] rfl rfl) hS _ (lv_sub hl [0] rfl)
    refine lv_icmp_ne (tgt := 22) hx hb dX11_holdOf_14 (by decide) (fun c14_2 => ?_) (fun c14_2 => ?_)
    · refine lv_iload_n hx hb dX11_holdOf_22 rfl (lv_at hl 0 rfl) ?_
      refine lv_bipush (v := 114) hx hb dX11_holdOf_23 (by decide) ?_
      have KJ_5 : ∀ (mv_4 : Int32) (hmv_4 : mv_4 = if x = 114 then 4 else 0) (H : Heap) (locs : List Loc), va_P g.1 vwCl [] H → va_D A [] → va_S A s.heap H locs → ∀ ls : Array Slot, lv_has ls 1 [(0, .int x)] → W p l e (kR 0 0 0 0) s m args below meth c H locs 0 0 (vx_MQ below (kQ g (fun v w => (v = some (.int (r_X11_holdOf x)) ∧ w = [])) A) (kX g (fun _ _ => False) A) args s 0 0 A) (F0 m 33 ls [.int mv_4]) := by
        intro mv_4 hmv_4 H locs hP hD hS ls hl
        exact KJ_7 mv_4 (by first | exact (if_neg c14_2).symm | simp only [hmv_4, if_neg c14_2]) _ _ (ksubP hP [] rfl) (hD.sub [] rfl rfl) hS _ (lv_sub hl [0] rfl)
      refine lv_icmp_ne (tgt := 32) hx hb dX11_holdOf_25 (by decide) (fun c25_3 => ?_) (fun c25_3 => ?_)
      · refine lv_iconst (v := 0) hx hb dX11_holdOf_32 (by decide) ?_
        exact KJ_5 0 (by first | exact (if_neg c25_3).symm | simp only [if_neg c25_3]) _ _ (ksubP hP [] rfl) (hD.sub [] rfl rfl) hS _ (lv_sub hl [0] rfl)
      · refine lv_iconst (v := 4) hx hb dX11_holdOf_28 (by decide) ?_
        refine lv_goto (tgt := 33) hx hb dX11_holdOf_29 (by decide) ?_
        exact KJ_5 4 (by first | exact (if_pos c25_3).symm | simp only [if_pos c25_3]) _ _ (ksubP hP [] rfl) (hD.sub [] rfl rfl) hS _ (lv_sub hl [0] rfl)
    · refine lv_bipush (v := 6) hx hb dX11_holdOf_17 (by decide) ?_
      refine lv_goto (tgt := 33) hx hb dX11_holdOf_19 (by decide) ?_
      exact KJ_7 6 (by first | exact (if_pos c14_2).symm | simp only [if_pos c14_2]) _ _ (ksubP hP [] rfl) (hD.sub [] rfl rfl) hS _ (lv_sub hl [0] rfl)
  · refine lv_bipush (v := 8) hx hb dX11_holdOf_6 (by decide) ?_
    refine lv_goto (tgt := 33) hx hb dX11_holdOf_8 (by decide) ?_
    exact KJ_9 8 (by first | exact (if_pos c3_1).symm | simp only [if_pos c3_1]) _ _ (ksubP hP [] rfl) (hD.sub [] rfl rfl) hS _ (lv_sub hl [0] rfl)

def r_X11_apart (x1 : Int32) (x2 : Int32) (x3 : Int32) (x4 : Int32) : Int32 := (if (if 0 ≤ (x1 - x3) then (x1 - x3) else 0 - (x1 - x3)) < (if 0 ≤ (x2 - x4) then (x2 - x4) else 0 - (x2 - x4)) then (if 0 ≤ (x2 - x4) then (x2 - x4) else 0 - (x2 - x4)) else (if 0 ≤ (x1 - x3) then (x1 - x3) else 0 - (x1 - x3)))
set_option maxHeartbeats 4000000 in
set_option maxRecDepth 100000 in
theorem m_X11_apart (l : Launch) (hl0 : l.stackTraces = false) (g : kG) (x1 : Int32) (x2 : Int32) (x3 : Int32) (x4 : Int32)  : kc l g yX11_apart prog_1_method_66_code 4 (some .int) 1 21 0 0 [.int x1, .int x2, .int x3, .int x4] [] (fun v w => (v = some (.int (r_X11_apart x1 x2 x3 x4)) ∧ w = [])) (fun _ _ => False) := by
  refine kbody (by decide) (Nat.le_of_ble_eq_true rfl) ?_
  intro p e s m args below meth c A H K ht G hP hD hA hS ls hl
  have K : KB p s m meth c RX11 "apart" prog_1_method_66_code 4 (some .int) := K
  obtain ⟨hx, hb, hml, hown, hlocks, hr, hin⟩ := id K
  have hl : lv_has ls 4 [(0, .int x1), (1, .int x2), (2, .int x3), (3, .int x4)] := hl
  refine lv_iload_n hx hb dX11_apart_0 rfl (lv_at hl 0 rfl) ?_
  refine lv_iload_n hx hb dX11_apart_1 rfl (lv_at hl 2 rfl) ?_
  refine lv_isub hx hb dX11_apart_2 ?_
  refine va_mabs hx hb (by rw [hml]; exact hl.1.symm) hown (G.w kw_0) (G.w kw_1) (G.w kw_2) (G.w kw_3) (Nat.le_of_ble_eq_true rfl) (Nat.le_of_ble_eq_true rfl) (Nat.le_of_ble_eq_true rfl) (Nat.le_of_ble_eq_true rfl) dX11_apart_3 ?_
  refine lv_iload_n hx hb dX11_apart_6 rfl (lv_at hl 1 rfl) ?_
  refine lv_iload_n hx hb dX11_apart_7 rfl (lv_at hl 3 rfl) ?_
  refine lv_isub hx hb dX11_apart_8 ?_
  refine va_mabs hx hb (by rw [hml]; exact hl.1.symm) hown (G.w kw_0) (G.w kw_1) (G.w kw_2) (G.w kw_3) (Nat.le_of_ble_eq_true rfl) (Nat.le_of_ble_eq_true rfl) (Nat.le_of_ble_eq_true rfl) (Nat.le_of_ble_eq_true rfl) dX11_apart_9 ?_
  refine va_mmax hx hb (by rw [hml]; exact hl.1.symm) hown (G.w kw_4) (G.w kw_5) (G.w kw_2) (G.w kw_6) (Nat.le_of_ble_eq_true rfl) (Nat.le_of_ble_eq_true rfl) (Nat.le_of_ble_eq_true rfl) (Nat.le_of_ble_eq_true rfl) dX11_apart_12 ?_
  exact kretI K hP hD hS [] [] rfl rfl ⟨(by first | simp only [r_X11_apart] | rfl | simp [r_X11_apart]), (by first | simp only [r_X11_apart] | rfl | simp [r_X11_apart])⟩ (by decide) (by decide) dX11_apart_15

def r_X11_within (x : Int32) : Int32 := (if (-999) < (if x < 999 then x else 999) then (if x < 999 then x else 999) else (-999))
set_option maxHeartbeats 4000000 in
set_option maxRecDepth 100000 in
theorem m_X11_within (l : Launch) (hl0 : l.stackTraces = false) (g : kG) (x : Int32)  : kc l g yX11_within prog_1_method_67_code 1 (some .int) 1 21 0 0 [.int x] [] (fun v w => (v = some (.int (r_X11_within x)) ∧ w = [])) (fun _ _ => False) := by
  refine kbody (by decide) (Nat.le_of_ble_eq_true rfl) ?_
  intro p e s m args below meth c A H K ht G hP hD hA hS ls hl
  have K : KB p s m meth c RX11 "within" prog_1_method_67_code 1 (some .int) := K
  obtain ⟨hx, hb, hml, hown, hlocks, hr, hin⟩ := id K
  have hl : lv_has ls 1 [(0, .int x)] := hl
  refine lv_sipush (v := (-999)) hx hb dX11_within_0 (by decide) ?_
  refine lv_sipush (v := 999) hx hb dX11_within_3 (by decide) ?_
  refine lv_iload_n hx hb dX11_within_6 rfl (lv_at hl 0 rfl) ?_
  refine va_mmin hx hb (by rw [hml]; exact hl.1.symm) hown (G.w kw_7) (G.w kw_8) (G.w kw_2) (G.w kw_9) (Nat.le_of_ble_eq_true rfl) (Nat.le_of_ble_eq_true rfl) (Nat.le_of_ble_eq_true rfl) (Nat.le_of_ble_eq_true rfl) dX11_within_7 ?_
  refine va_mmax hx hb (by rw [hml]; exact hl.1.symm) hown (G.w kw_4) (G.w kw_5) (G.w kw_2) (G.w kw_6) (Nat.le_of_ble_eq_true rfl) (Nat.le_of_ble_eq_true rfl) (Nat.le_of_ble_eq_true rfl) (Nat.le_of_ble_eq_true rfl) dX11_within_10 ?_
  exact kretI K hP hD hS [] [] rfl rfl ⟨(by first | simp only [r_X11_within] | rfl | simp [r_X11_within]), (by first | simp only [r_X11_within] | rfl | simp [r_X11_within])⟩ (by decide) (by decide) dX11_within_13

set_option maxHeartbeats 4000000 in
set_option maxRecDepth 100000 in
theorem m_J3_checkIndex_8e157 (l : Launch) (hl0 : l.stackTraces = false) (g : kG) (i : Int32) (z : Int32) (h1 : ¬ i < 0) (h2 : i < z) : kc l g yJ3_checkIndex_8e157 prog_47_method_11_code 3 (some .int) 0 0 0 0 [.int i, .int z, .null] [] (fun v w => (v = some (.int i) ∧ w = [])) (fun _ _ => False) := by
  refine kbody (by decide) (Nat.le_of_ble_eq_true rfl) ?_
  intro p e s m args below meth c A H K ht G hP hD hA hS ls hl
  have K : KB p s m meth c RJ3 "checkIndex" prog_47_method_11_code 3 (some .int) := K
  obtain ⟨hx, hb, hml, hown, hlocks, hr, hin⟩ := id K
  have hl : lv_has ls 3 [(0, .int i), (1, .int z), (2, .null)] := hl
  refine lv_iload_n hx hb dJ3_checkIndex_8e157_0 rfl (lv_at hl 0 rfl) ?_
  refine lv_if_lt (tgt := 9) hx hb dJ3_checkIndex_8e157_1 (by decide) (fun c1_1 => ?_) (fun c1_1 => ?_)
  · exact absurd c1_1 (by exact h1)
  · refine lv_iload_n hx hb dJ3_checkIndex_8e157_4 rfl (lv_at hl 0 rfl) ?_
    refine lv_iload_n hx hb dJ3_checkIndex_8e157_5 rfl (lv_at hl 1 rfl) ?_
    refine lv_icmp_lt (tgt := 16) hx hb dJ3_checkIndex_8e157_6 (by decide) (fun c6_2 => ?_) (fun c6_2 => ?_)
    · refine lv_iload_n hx hb dJ3_checkIndex_8e157_16 rfl (lv_at hl 0 rfl) ?_
      exact kretI K hP hD hS [] [] rfl rfl ⟨(by first | simp only [if_neg c1_1, if_pos c6_2] | rfl | simp [if_neg c1_1, if_pos c6_2]), (by first | simp only [if_neg c1_1, if_pos c6_2] | rfl | simp [if_neg c1_1, if_pos c6_2])⟩ (by decide) (by decide) dJ3_checkIndex_8e157_17
    · exact absurd c6_2 (by exact fun h => h h2)

set_option maxHeartbeats 4000000 in
set_option maxRecDepth 100000 in
theorem m_J15_checkIndex_7cf53 (l : Launch) (hl0 : l.stackTraces = false) (g : kG) (i : Int32) (z : Int32) (h1 : ¬ i < 0) (h2 : i < z) : kc l g yJ15_checkIndex_7cf53 prog_43_method_17_code 2 (some .int) 1 22 0 0 [.int i, .int z] [] (fun v w => (v = some (.int i) ∧ w = [])) (fun _ _ => False) := by
  refine kbody (by decide) (Nat.le_of_ble_eq_true rfl) ?_
  intro p e s m args below meth c A H K ht G hP hD hA hS ls hl
  have K : KB p s m meth c RJ15 "checkIndex" prog_43_method_17_code 2 (some .int) := K
  obtain ⟨hx, hb, hml, hown, hlocks, hr, hin⟩ := id K
  have hl : lv_has ls 2 [(0, .int i), (1, .int z)] := hl
  refine lv_iload_n hx hb dJ15_checkIndex_7cf53_0 rfl (lv_at hl 0 rfl) ?_
  refine lv_iload_n hx hb dJ15_checkIndex_7cf53_1 rfl (lv_at hl 1 rfl) ?_
  refine lv_null hx hb dJ15_checkIndex_7cf53_2 ?_
  refine kcallS (wc := []) (wr := []) (As := [.int i, .int z, .null]) (rest := []) K G (m_J3_checkIndex_8e157 l hl0 g i z h1 h2) hP hD hS hA hl kw_10 kw_11 kw_13 kw_12 ydJ3_checkIndex_8e157 [] [] rfl rfl rfl rfl (by decide) rfl rfl (Nat.le_of_ble_eq_true rfl) dJ15_checkIndex_7cf53_3 ⟨Nat.le_of_ble_eq_true rfl, Nat.le_of_ble_eq_true rfl⟩ ⟨Nat.le_of_ble_eq_true rfl, Nat.le_of_ble_eq_true rfl⟩ (fun _ _ _ _ _ _ hX _ _ _ _ _ _ => hX.elim) (fun v w1 H locs hQ hP hD hS => ?_)
  obtain ⟨rfl, rfl⟩ := hQ
  have hP : va_P g.1 vwCl [] H := hP
  have hD : va_D A [] := hD
  refine W.widen (k := 0) (n := 0) (by decide) (by decide) ?_
  refine W.eq (g2 := F0 m 6 ls [.int i]) rfl ?_
  exact kretI K hP hD hS [] [] rfl rfl ⟨rfl, rfl⟩ (by decide) (by decide) dJ15_checkIndex_7cf53_6

set_option maxHeartbeats 4000000 in
set_option maxRecDepth 100000 in
theorem m_Jx4a65c_elementData_915e3 (l : Launch) (hl0 : l.stackTraces = false) (g : kG) (h0 : Nat) (q0 : Nat) (n0 : Nat) (v0 : Nat) (mc : Int32) (z : Int32) (i : Int32) (f : Nat → Option Nat) (hv : f i.toNatClampNeg = some v0) (hib : vp_in i n0) : kc l g yJx4a65c_elementData_915e3 prog_38_method_18_code 2 (some (.object "java/lang/Object")) 0 0 0 0 [.ref h0, .int i] [(h0, .inr (2, [.int mc, .ref q0, .int z])), (q0, .inl ((g.2.2.1 4), n0, .inr (.inr (.inr (.inr f)))))] (fun v w => (v = some (.ref v0) ∧ w = [(h0, .inr (2, [.int mc, .ref q0, .int z])), (q0, .inl ((g.2.2.1 4), n0, .inr (.inr (.inr (.inr f)))))])) (fun _ _ => False) := by
  refine kbody (by decide) (Nat.le_of_ble_eq_true rfl) ?_
  intro p e s m args below meth c A H K ht G hP hD hA hS ls hl
  have K : KB p s m meth c RJx4a65c "elementData" prog_38_method_18_code 2 (some (.object "java/lang/Object")) := K
  obtain ⟨hx, hb, hml, hown, hlocks, hr, hin⟩ := id K
  have hl : lv_has ls 2 [(0, .ref h0), (1, .int i)] := hl
  refine lv_aload_n hx hb dJx4a65c_elementData_915e3_0 rfl (lv_at hl 0 rfl) ?_
  refine va_get (D := g.1) (ci := 2) (v := .ref q0) (C := RJx4a65c) (T := TJx4a65c) (N := 3) hx hb G.ws inJx4a65c hown G.K hP 0 rfl rfl 1 (by decide) (G.w kw_14) (fun _ h9 => h9) rfl dJx4a65c_elementData_915e3_1 ?_
  refine lv_iload_n hx hb dJx4a65c_elementData_915e3_4 rfl (lv_at hl 1 rfl) ?_
  refine kaaldO (q0 := 1) (v := v0) hx hb G hP rfl (i := i) hib hv dJx4a65c_elementData_915e3_5 ?_
  exact kretA K hP hD hS [0, 1] [(h0, .inr (2, [.int mc, .ref q0, .int z])), (q0, .inl ((g.2.2.1 4), n0, .inr (.inr (.inr (.inr f)))))] rfl rfl ⟨rfl, rfl⟩ (by decide) (by decide) dJx4a65c_elementData_915e3_6

set_option maxHeartbeats 4000000 in
set_option maxRecDepth 100000 in
theorem m_Jx4a65c_get_915e3 (l : Launch) (hl0 : l.stackTraces = false) (g : kG) (h0 : Nat) (q0 : Nat) (n0 : Nat) (v0 : Nat) (mc : Int32) (z : Int32) (i : Int32) (f : Nat → Option Nat) (h1 : ¬ i < 0) (h2 : i < z) (hv : f i.toNatClampNeg = some v0) (hib : vp_in i n0) : kc l g yJx4a65c_get_915e3 prog_38_method_20_code 2 (some (.object "java/lang/Object")) 2 43 0 0 [.ref h0, .int i] [(h0, .inr (2, [.int mc, .ref q0, .int z])), (q0, .inl ((g.2.2.1 4), n0, .inr (.inr (.inr (.inr f)))))] (fun v w => (v = some (.ref v0) ∧ w = [(h0, .inr (2, [.int mc, .ref q0, .int z])), (q0, .inl ((g.2.2.1 4), n0, .inr (.inr (.inr (.inr f)))))])) (fun _ _ => False) := by
  refine kbody (by decide) (Nat.le_of_ble_eq_true rfl) ?_
  intro p e s m args below meth c A H K ht G hP hD hA hS ls hl
  have K : KB p s m meth c RJx4a65c "get" prog_38_method_20_code 2 (some (.object "java/lang/Object")) := K
  obtain ⟨hx, hb, hml, hown, hlocks, hr, hin⟩ := id K
  have hl : lv_has ls 2 [(0, .ref h0), (1, .int i)] := hl
  refine lv_iload_n hx hb dJx4a65c_get_915e3_0 rfl (lv_at hl 1 rfl) ?_
  refine lv_aload_n hx hb dJx4a65c_get_915e3_1 rfl (lv_at hl 0 rfl) ?_
  refine va_get (D := g.1) (ci := 2) (v := .int z) (C := RJx4a65c) (T := TJx4a65c) (N := 3) hx hb G.ws inJx4a65c hown G.K hP 0 rfl rfl 2 (by decide) (G.w kw_15) (fun _ h9 => h9) rfl dJx4a65c_get_915e3_2 ?_
  refine kcallS (wc := []) (wr := [(h0, .inr (2, [.int mc, .ref q0, .int z])), (q0, .inl ((g.2.2.1 4), n0, .inr (.inr (.inr (.inr f)))))]) (As := [.int i, .int z]) (rest := []) K G (m_J15_checkIndex_7cf53 l hl0 g i z h1 h2) hP hD hS hA hl kw_16 kw_17 kw_19 kw_18 ydJ15_checkIndex_7cf53 [] [0, 1] rfl rfl rfl rfl (by decide) rfl rfl (Nat.le_of_ble_eq_true rfl) dJx4a65c_get_915e3_5 ⟨Nat.le_of_ble_eq_true rfl, Nat.le_of_ble_eq_true rfl⟩ ⟨Nat.le_of_ble_eq_true rfl, Nat.le_of_ble_eq_true rfl⟩ (fun _ _ _ _ _ _ hX _ _ _ _ _ _ => hX.elim) (fun v w1 H locs hQ hP hD hS => ?_)
  obtain ⟨rfl, rfl⟩ := hQ
  have hP : va_P g.1 vwCl [(h0, .inr (2, [.int mc, .ref q0, .int z])), (q0, .inl ((g.2.2.1 4), n0, .inr (.inr (.inr (.inr f)))))] H := hP
  have hD : va_D A [(h0, .inr (2, [.int mc, .ref q0, .int z])), (q0, .inl ((g.2.2.1 4), n0, .inr (.inr (.inr (.inr f)))))] := hD
  refine W.widen (k := 0) (n := 0) (by decide) (by decide) ?_
  refine W.eq (g2 := F0 m 8 ls [.int i]) rfl ?_
  refine lv_pop hx hb dJx4a65c_get_915e3_8 rfl ?_
  refine lv_aload_n hx hb dJx4a65c_get_915e3_9 rfl (lv_at hl 0 rfl) ?_
  refine lv_iload_n hx hb dJx4a65c_get_915e3_10 rfl (lv_at hl 1 rfl) ?_
  refine kcallV (wc := [(h0, .inr (2, [.int mc, .ref q0, .int z])), (q0, .inl ((g.2.2.1 4), n0, .inr (.inr (.inr (.inr f)))))]) (wr := []) (As := [.int i]) (rest := []) K G (m_Jx4a65c_elementData_915e3 l hl0 g h0 q0 n0 v0 mc z i f hv hib) hP hD hS hA hl kw_20 kw_21 kw_23 kw_24 kw_22 ydJx4a65c_elementData_915e3 [0, 1] [] rfl rfl rfl rfl (by decide) (ci := 2) (q0 := 0) rfl rfl rfl rfl rfl (Nat.le_of_ble_eq_true rfl) dJx4a65c_get_915e3_11 ⟨Nat.le_of_ble_eq_true rfl, Nat.le_of_ble_eq_true rfl⟩ ⟨Nat.le_of_ble_eq_true rfl, Nat.le_of_ble_eq_true rfl⟩ (fun _ _ _ _ _ _ hX _ _ _ _ _ _ => hX.elim) (fun v w1 H locs hQ hP hD hS => ?_)
  obtain ⟨rfl, rfl⟩ := hQ
  have hP : va_P g.1 vwCl [(h0, .inr (2, [.int mc, .ref q0, .int z])), (q0, .inl ((g.2.2.1 4), n0, .inr (.inr (.inr (.inr f)))))] H := hP
  have hD : va_D A [(h0, .inr (2, [.int mc, .ref q0, .int z])), (q0, .inl ((g.2.2.1 4), n0, .inr (.inr (.inr (.inr f)))))] := hD
  refine W.widen (k := 0) (n := 0) (by decide) (by decide) ?_
  refine W.eq (g2 := F0 m 14 ls [.ref v0]) rfl ?_
  exact kretA K hP hD hS [0, 1] [(h0, .inr (2, [.int mc, .ref q0, .int z])), (q0, .inl ((g.2.2.1 4), n0, .inr (.inr (.inr (.inr f)))))] rfl rfl ⟨rfl, rfl⟩ (by decide) (by decide) dJx4a65c_get_915e3_14

set_option maxHeartbeats 4000000 in
set_option maxRecDepth 100000 in
theorem m_Jx4a65c_size_8abf5 (l : Launch) (hl0 : l.stackTraces = false) (g : kG) (h0 : Nat) (q0 : Nat) (mc : Int32) (z : Int32)  : kc l g yJx4a65c_size_8abf5 prog_38_method_8_code 1 (some .int) 0 0 0 0 [.ref h0] [(h0, .inr (2, [.int mc, .ref q0, .int z]))] (fun v w => (v = some (.int z) ∧ w = [(h0, .inr (2, [.int mc, .ref q0, .int z]))])) (fun _ _ => False) := by
  refine kbody (by decide) (Nat.le_of_ble_eq_true rfl) ?_
  intro p e s m args below meth c A H K ht G hP hD hA hS ls hl
  have K : KB p s m meth c RJx4a65c "size" prog_38_method_8_code 1 (some .int) := K
  obtain ⟨hx, hb, hml, hown, hlocks, hr, hin⟩ := id K
  have hl : lv_has ls 1 [(0, .ref h0)] := hl
  refine lv_aload_n hx hb dJx4a65c_size_8abf5_0 rfl (lv_at hl 0 rfl) ?_
  refine va_get (D := g.1) (ci := 2) (v := .int z) (C := RJx4a65c) (T := TJx4a65c) (N := 3) hx hb G.ws inJx4a65c hown G.K hP 0 rfl rfl 2 (by decide) (G.w kw_15) (fun _ h9 => h9) rfl dJx4a65c_size_8abf5_1 ?_
  exact kretI K hP hD hS [0] [(h0, .inr (2, [.int mc, .ref q0, .int z]))] rfl rfl ⟨rfl, rfl⟩ (by decide) (by decide) dJx4a65c_size_8abf5_4

def r_X2_canRun (gp : Int32) (gl : Int32) (go : Int32) (gr : Int32) (x : Int32) : Int32 := (if go = 0 then 0 else (if gl ≤ gr then 0 else (if x < gp then 0 else 1)))
theorem z_r_X2_canRun (gp : Int32) (gl : Int32) (go : Int32) (gr : Int32) (x : Int32)  : r_X2_canRun gp gl go gr x = 0 ∨ r_X2_canRun gp gl go gr x = 1 := by
  unfold r_X2_canRun
  repeat' first | with_reducible refine kz_if ?_ ?_ | with_reducible exact Or.inl rfl | with_reducible exact Or.inr rfl | with_reducible assumption | exact z_r_X11_isNight _ | exact z_r_X11_isTape _
set_option maxHeartbeats 4000000 in
set_option maxRecDepth 100000 in
theorem m_X2_canRun (l : Launch) (hl0 : l.stackTraces = false) (g : kG) (g0 : Nat) (gp : Int32) (gl : Int32) (go : Int32) (gr : Int32) (x : Int32)  : kc l g yX2_canRun prog_4_method_2_code 2 (some .boolean) 0 0 0 0 [.ref g0, .int x] [(g0, .inr (5, [.int gp, .int gl, .int go, .int gr]))] (fun v w => (v = some (.int (r_X2_canRun gp gl go gr x)) ∧ w = [(g0, .inr (5, [.int gp, .int gl, .int go, .int gr]))])) (fun _ _ => False) := by
  refine kbody (by decide) (Nat.le_of_ble_eq_true rfl) ?_
  intro p e s m args below meth c A H K ht G hP hD hA hS ls hl
  have K : KB p s m meth c RX2 "canRun" prog_4_method_2_code 2 (some .boolean) := K
  obtain ⟨hx, hb, hml, hown, hlocks, hr, hin⟩ := id K
  have hl : lv_has ls 2 [(0, .ref g0), (1, .int x)] := hl
  refine lv_aload_n hx hb dX2_canRun_0 rfl (lv_at hl 0 rfl) ?_
  refine va_get (D := g.1) (ci := 5) (v := .int go) (C := RX2) (T := TX2) (N := 4) hx hb G.ws inX2 hown G.K hP 0 rfl rfl 2 (by decide) (G.w kw_25) (fun _ h9 => h9) rfl dX2_canRun_1 ?_
  have KJ_9 : ∀ (mv_8 : Int32) (hmv_8 : mv_8 = if go = 0 then 0 else (if gl ≤ gr then 0 else (if x < gp then 0 else 1))) (H : Heap) (locs : List Loc), va_P g.1 vwCl [(g0, .inr (5, [.int gp, .int gl, .int go, .int gr]))] H → va_D A [(g0, .inr (5, [.int gp, .int gl, .int go, .int gr]))] → va_S A s.heap H locs → ∀ ls : Array Slot, lv_has ls 2 [(0, .ref g0), (1, .int x)] → W p l e (kR 0 0 0 0) s m args below meth c H locs 0 0 (vx_MQ below (kQ g (fun v w => (v = some (.int (r_X2_canRun gp gl go gr x)) ∧ w = [(g0, .inr (5, [.int gp, .int gl, .int go, .int gr]))])) A) (kX g (fun _ _ => False) A) args s 0 0 A) (F0 m 31 ls [.int mv_8]) := by
    intro mv_8 hmv_8 H locs hP hD hS ls hl
    exact kretZ K hP hD hS [0] [(g0, .inr (5, [.int gp, .int gl, .int go, .int gr]))] rfl rfl ⟨(by first | simp only [r_X2_canRun, hmv_8] | rfl | simp [r_X2_canRun, hmv_8]), (by first | simp only [r_X2_canRun, hmv_8] | rfl | simp [r_X2_canRun, hmv_8])⟩ (by decide) (by decide) dX2_canRun_31 (kz_nar2 (by (try simp only [hmv_8]); repeat' first | with_reducible refine kz_if ?_ ?_ | with_reducible exact Or.inl rfl | with_reducible exact Or.inr rfl | with_reducible assumption | exact z_r_X11_isNight _ | exact z_r_X11_isTape _ | exact z_r_X2_canRun _ _ _ _ _))
  refine lv_if_eq (tgt := 30) hx hb dX2_canRun_4 (by decide) (fun c4_1 => ?_) (fun c4_1 => ?_)
  · refine lv_iconst (v := 0) hx hb dX2_canRun_30 (by decide) ?_
    exact KJ_9 0 (by first | exact (if_pos c4_1).symm | simp only [if_pos c4_1]) _ _ (ksubP hP [0] rfl) (hD.sub [0] rfl rfl) hS _ (lv_sub hl [0, 1] rfl)
  · refine lv_aload_n hx hb dX2_canRun_7 rfl (lv_at hl 0 rfl) ?_
    refine va_get (D := g.1) (ci := 5) (v := .int gr) (C := RX2) (T := TX2) (N := 4) hx hb G.ws inX2 hown G.K hP 0 rfl rfl 3 (by decide) (G.w kw_26) (fun _ h9 => h9) rfl dX2_canRun_8 ?_
    refine lv_aload_n hx hb dX2_canRun_11 rfl (lv_at hl 0 rfl) ?_
    refine va_get (D := g.1) (ci := 5) (v := .int gl) (C := RX2) (T := TX2) (N := 4) hx hb G.ws inX2 hown G.K hP 0 rfl rfl 1 (by decide) (G.w kw_27) (fun _ h9 => h9) rfl dX2_canRun_12 ?_
    have KJ_7 : ∀ (mv_6 : Int32) (hmv_6 : mv_6 = if gl ≤ gr then 0 else (if x < gp then 0 else 1)) (H : Heap) (locs : List Loc), va_P g.1 vwCl [(g0, .inr (5, [.int gp, .int gl, .int go, .int gr]))] H → va_D A [(g0, .inr (5, [.int gp, .int gl, .int go, .int gr]))] → va_S A s.heap H locs → ∀ ls : Array Slot, lv_has ls 2 [(0, .ref g0), (1, .int x)] → W p l e (kR 0 0 0 0) s m args below meth c H locs 0 0 (vx_MQ below (kQ g (fun v w => (v = some (.int (r_X2_canRun gp gl go gr x)) ∧ w = [(g0, .inr (5, [.int gp, .int gl, .int go, .int gr]))])) A) (kX g (fun _ _ => False) A) args s 0 0 A) (F0 m 31 ls [.int mv_6]) := by
      intro mv_6 hmv_6 H locs hP hD hS ls hl
      exact KJ_9 mv_6 (by first | exact (if_neg c4_1).symm | simp only [hmv_6, if_neg c4_1]) _ _ (ksubP hP [0] rfl) (hD.sub [0] rfl rfl) hS _ (lv_sub hl [0, 1] rfl)
    refine lv_icmp_ge (tgt := 30) hx hb dX2_canRun_15 (by decide) (fun c15_2 => ?_) (fun c15_2 => ?_)
    · refine lv_iconst (v := 0) hx hb dX2_canRun_30 (by decide) ?_
      exact KJ_7 0 (by first | exact (if_pos c15_2).symm | simp only [if_pos c15_2]) _ _ (ksubP hP [0] rfl) (hD.sub [0] rfl rfl) hS _ (lv_sub hl [0, 1] rfl)
    · refine lv_iload_n hx hb dX2_canRun_18 rfl (lv_at hl 1 rfl) ?_
      refine lv_aload_n hx hb dX2_canRun_19 rfl (lv_at hl 0 rfl) ?_
      refine va_get (D := g.1) (ci := 5) (v := .int gp) (C := RX2) (T := TX2) (N := 4) hx hb G.ws inX2 hown G.K hP 0 rfl rfl 0 (by decide) (G.w kw_28) (fun _ h9 => h9) rfl dX2_canRun_20 ?_
      have KJ_5 : ∀ (mv_4 : Int32) (hmv_4 : mv_4 = if x < gp then 0 else 1) (H : Heap) (locs : List Loc), va_P g.1 vwCl [(g0, .inr (5, [.int gp, .int gl, .int go, .int gr]))] H → va_D A [(g0, .inr (5, [.int gp, .int gl, .int go, .int gr]))] → va_S A s.heap H locs → ∀ ls : Array Slot, lv_has ls 2 [(0, .ref g0), (1, .int x)] → W p l e (kR 0 0 0 0) s m args below meth c H locs 0 0 (vx_MQ below (kQ g (fun v w => (v = some (.int (r_X2_canRun gp gl go gr x)) ∧ w = [(g0, .inr (5, [.int gp, .int gl, .int go, .int gr]))])) A) (kX g (fun _ _ => False) A) args s 0 0 A) (F0 m 31 ls [.int mv_4]) := by
        intro mv_4 hmv_4 H locs hP hD hS ls hl
        exact KJ_7 mv_4 (by first | exact (if_neg c15_2).symm | simp only [hmv_4, if_neg c15_2]) _ _ (ksubP hP [0] rfl) (hD.sub [0] rfl rfl) hS _ (lv_sub hl [0, 1] rfl)
      refine lv_icmp_lt (tgt := 30) hx hb dX2_canRun_23 (by decide) (fun c23_3 => ?_) (fun c23_3 => ?_)
      · refine lv_iconst (v := 0) hx hb dX2_canRun_30 (by decide) ?_
        exact KJ_5 0 (by first | exact (if_pos c23_3).symm | simp only [if_pos c23_3]) _ _ (ksubP hP [0] rfl) (hD.sub [0] rfl rfl) hS _ (lv_sub hl [0, 1] rfl)
      · refine lv_iconst (v := 1) hx hb dX2_canRun_26 (by decide) ?_
        refine lv_goto (tgt := 31) hx hb dX2_canRun_27 (by decide) ?_
        exact KJ_5 1 (by first | exact (if_neg c23_3).symm | simp only [if_neg c23_3]) _ _ (ksubP hP [0] rfl) (hD.sub [0] rfl rfl) hS _ (lv_sub hl [0, 1] rfl)

def r_X8_burnFuel_s0_6 (fu : Int32) (gp : Int32) (gl : Int32) (go : Int32) (gr : Int32) : Int32 := (if (r_X2_canRun gp gl go gr fu) = 0 then fu else (fu - gp))
def r_X8_burnFuel_s0_11 (fu : Int32) (gp : Int32) (gl : Int32) (go : Int32) (gr : Int32) : Int32 := (if (r_X2_canRun gp gl go gr fu) = 0 then 0 else 1)
def r_X8_burnFuel_g0_3 (fu : Int32) (gp : Int32) (gl : Int32) (go : Int32) (gr : Int32) : Int32 := (if (r_X2_canRun gp gl go gr fu) = 0 then gr else (gr + 1))
set_option maxHeartbeats 4000000 in
set_option maxRecDepth 100000 in
theorem m_X8_burnFuel (l : Launch) (hl0 : l.stackTraces = false) (g : kG) (s0 : Nat) (sA : Nat) (sL : Nat) (sP : Nat) (sS : Nat) (ea : Int32) (no : Int32) (fu : Int32) (fo : Int32) (sa : Int32) (po : Int32) (ch : Int32) (rb : Int32) (on : Int32) (li : Int32) (sp : Int32) (hu : Int32) (mu : Int32) (g0 : Nat) (gp : Int32) (gl : Int32) (go : Int32) (gr : Int32) (gq : Nat) (gmc : Int32) (gf : Nat → Option Nat)  : kc l g yX8_burnFuel prog_10_method_2_code 3 none 3 64 0 0 [.ref s0] [(s0, .inr (10, [.ref sA, .ref sL, .ref sP, .ref sS, .int ea, .int no, .int fu, .int fo, .int sa, .int po, .int ch, .int rb, .int on, .int li, .int sp, .int hu, .int mu])), (g0, .inr (5, [.int gp, .int gl, .int go, .int gr])), (sL, .inr (2, [.int gmc, .ref gq, .int 1])), (gq, .inl ((g.2.2.1 4), 10, .inr (.inr (.inr (.inr (va_up gf 0 (some g0)))))))] (fun v w => (v = none ∧ w = [(s0, .inr (10, [.ref sA, .ref sL, .ref sP, .ref sS, .int ea, .int no, .int (r_X8_burnFuel_s0_6 fu gp gl go gr), .int fo, .int sa, .int po, .int ch, .int (r_X8_burnFuel_s0_11 fu gp gl go gr), .int on, .int li, .int sp, .int hu, .int mu])), (g0, .inr (5, [.int gp, .int gl, .int go, .int (r_X8_burnFuel_g0_3 fu gp gl go gr)])), (sL, .inr (2, [.int gmc, .ref gq, .int 1])), (gq, .inl ((g.2.2.1 4), 10, .inr (.inr (.inr (.inr (va_up gf 0 (some g0)))))))])) (fun _ _ => False) := by
  refine kbody (by decide) (Nat.le_of_ble_eq_true rfl) ?_
  intro p e s m args below meth c A H K ht G hP hD hA hS ls hl
  have K : KB p s m meth c RX8 "burnFuel" prog_10_method_2_code 3 none := K
  obtain ⟨hx, hb, hml, hown, hlocks, hr, hin⟩ := id K
  have hl : lv_has ls 3 [(0, .ref s0)] := hl
  refine lv_aload_n hx hb dX8_burnFuel_0 rfl (lv_at hl 0 rfl) ?_
  refine lv_iconst (v := 0) hx hb dX8_burnFuel_1 (by decide) ?_
  refine va_put (D := g.1) (ci := 10) (v := .int 0) (ty := .int) (C := RX8) (T := TX8) (N := 17) hx hb G.ws inX8 tyX8 tyX8_ok nmX8 hown G.K hP hD hS 0 rfl rfl 11 (by decide) (G.w kw_29) (fun _ h9 => h9) (by decide +kernel) (by decide +kernel) rfl rfl (Nat.le_of_ble_eq_true rfl) dX8_burnFuel_2 (fun H locs hP hD hS => ?_)
  have hP : va_P g.1 vwCl [(s0, .inr (10, [.ref sA, .ref sL, .ref sP, .ref sS, .int ea, .int no, .int fu, .int fo, .int sa, .int po, .int ch, .int 0, .int on, .int li, .int sp, .int hu, .int mu])), (g0, .inr (5, [.int gp, .int gl, .int go, .int gr])), (sL, .inr (2, [.int gmc, .ref gq, .int 1])), (gq, .inl ((g.2.2.1 4), 10, .inr (.inr (.inr (.inr (va_up gf 0 (some g0)))))))] H := hP
  have hD : va_D A [(s0, .inr (10, [.ref sA, .ref sL, .ref sP, .ref sS, .int ea, .int no, .int fu, .int fo, .int sa, .int po, .int ch, .int 0, .int on, .int li, .int sp, .int hu, .int mu])), (g0, .inr (5, [.int gp, .int gl, .int go, .int gr])), (sL, .inr (2, [.int gmc, .ref gq, .int 1])), (gq, .inl ((g.2.2.1 4), 10, .inr (.inr (.inr (.inr (va_up gf 0 (some g0)))))))] := hD
  refine lv_iconst (v := 0) hx hb dX8_burnFuel_5 (by decide) ?_
  refine lv_istore_n (lv' := [(1, .int 0), (0, .ref s0)]) hx hb dX8_burnFuel_6 rfl hl (by decide) rfl (fun ls hl => ?_)
  refine lv_iload_n hx hb dX8_burnFuel_7 rfl (lv_at hl 0 rfl) ?_
  refine lv_aload_n hx hb dX8_burnFuel_8 rfl (lv_at hl 1 rfl) ?_
  refine va_get (D := g.1) (ci := 10) (v := .ref sL) (C := RX8) (T := TX8) (N := 17) hx hb G.ws inX8 hown G.K hP 0 rfl rfl 1 (by decide) (G.w kw_30) (fun _ h9 => h9) rfl dX8_burnFuel_9 ?_
  refine kcallV (wc := [(sL, .inr (2, [.int gmc, .ref gq, .int 1]))]) (wr := [(s0, .inr (10, [.ref sA, .ref sL, .ref sP, .ref sS, .int ea, .int no, .int fu, .int fo, .int sa, .int po, .int ch, .int 0, .int on, .int li, .int sp, .int hu, .int mu])), (g0, .inr (5, [.int gp, .int gl, .int go, .int gr])), (gq, .inl ((g.2.2.1 4), 10, .inr (.inr (.inr (.inr (va_up gf 0 (some g0)))))))]) (As := []) (rest := [.int 0]) K G (m_Jx4a65c_size_8abf5 l hl0 g sL gq gmc 1 ) hP hD hS hA hl kw_31 kw_32 kw_33 kw_34 kw_22 ydJx4a65c_size_8abf5 [2] [0, 1, 3] rfl rfl rfl rfl (by decide) (ci := 2) (q0 := 2) rfl rfl rfl rfl rfl (Nat.le_of_ble_eq_true rfl) dX8_burnFuel_12 ⟨Nat.le_of_ble_eq_true rfl, Nat.le_of_ble_eq_true rfl⟩ ⟨Nat.le_of_ble_eq_true rfl, Nat.le_of_ble_eq_true rfl⟩ (fun _ _ _ _ _ _ hX _ _ _ _ _ _ => hX.elim) (fun v w1 H locs hQ hP hD hS => ?_)
  obtain ⟨rfl, rfl⟩ := hQ
  have hP : va_P g.1 vwCl [(s0, .inr (10, [.ref sA, .ref sL, .ref sP, .ref sS, .int ea, .int no, .int fu, .int fo, .int sa, .int po, .int ch, .int 0, .int on, .int li, .int sp, .int hu, .int mu])), (g0, .inr (5, [.int gp, .int gl, .int go, .int gr])), (gq, .inl ((g.2.2.1 4), 10, .inr (.inr (.inr (.inr (va_up gf 0 (some g0))))))), (sL, .inr (2, [.int gmc, .ref gq, .int 1]))] H := hP
  have hD : va_D A [(s0, .inr (10, [.ref sA, .ref sL, .ref sP, .ref sS, .int ea, .int no, .int fu, .int fo, .int sa, .int po, .int ch, .int 0, .int on, .int li, .int sp, .int hu, .int mu])), (g0, .inr (5, [.int gp, .int gl, .int go, .int gr])), (gq, .inl ((g.2.2.1 4), 10, .inr (.inr (.inr (.inr (va_up gf 0 (some g0))))))), (sL, .inr (2, [.int gmc, .ref gq, .int 1]))] := hD
  refine W.widen (k := 0) (n := 0) (by decide) (by decide) ?_
  refine W.eq (g2 := F0 m 15 ls [.int 1, .int 0]) rfl ?_
  refine lv_icmp_ge (tgt := 82) hx hb dX8_burnFuel_15 (by decide) (fun c15_2 => absurd c15_2 (by decide)) (fun _ => ?_)
  refine lv_aload_n hx hb dX8_burnFuel_18 rfl (lv_at hl 1 rfl) ?_
  refine va_get (D := g.1) (ci := 10) (v := .ref sL) (C := RX8) (T := TX8) (N := 17) hx hb G.ws inX8 hown G.K hP 0 rfl rfl 1 (by decide) (G.w kw_30) (fun _ h9 => h9) rfl dX8_burnFuel_19 ?_
  refine lv_iload_n hx hb dX8_burnFuel_22 rfl (lv_at hl 0 rfl) ?_
  refine kcallV (wc := [(sL, .inr (2, [.int gmc, .ref gq, .int 1])), (gq, .inl ((g.2.2.1 4), 10, .inr (.inr (.inr (.inr (va_up gf 0 (some g0)))))))]) (wr := [(s0, .inr (10, [.ref sA, .ref sL, .ref sP, .ref sS, .int ea, .int no, .int fu, .int fo, .int sa, .int po, .int ch, .int 0, .int on, .int li, .int sp, .int hu, .int mu])), (g0, .inr (5, [.int gp, .int gl, .int go, .int gr]))]) (As := [.int 0]) (rest := []) K G (m_Jx4a65c_get_915e3 l hl0 g sL gq 10 g0 gmc 1 0 (va_up gf 0 (some g0)) (by decide) (by decide) rfl (vp_in_iff.mpr ⟨by decide, by decide⟩)) hP hD hS hA hl kw_35 kw_36 kw_37 kw_38 kw_22 ydJx4a65c_get_915e3 [3, 2] [0, 1] rfl rfl rfl rfl (by decide) (ci := 2) (q0 := 3) rfl rfl rfl rfl rfl (Nat.le_of_ble_eq_true rfl) dX8_burnFuel_23 ⟨Nat.le_of_ble_eq_true rfl, Nat.le_of_ble_eq_true rfl⟩ ⟨Nat.le_of_ble_eq_true rfl, Nat.le_of_ble_eq_true rfl⟩ (fun _ _ _ _ _ _ hX _ _ _ _ _ _ => hX.elim) (fun v w1 H locs hQ hP hD hS => ?_)
  obtain ⟨rfl, rfl⟩ := hQ
  have hP : va_P g.1 vwCl [(s0, .inr (10, [.ref sA, .ref sL, .ref sP, .ref sS, .int ea, .int no, .int fu, .int fo, .int sa, .int po, .int ch, .int 0, .int on, .int li, .int sp, .int hu, .int mu])), (g0, .inr (5, [.int gp, .int gl, .int go, .int gr])), (sL, .inr (2, [.int gmc, .ref gq, .int 1])), (gq, .inl ((g.2.2.1 4), 10, .inr (.inr (.inr (.inr (va_up gf 0 (some g0)))))))] H := hP
  have hD : va_D A [(s0, .inr (10, [.ref sA, .ref sL, .ref sP, .ref sS, .int ea, .int no, .int fu, .int fo, .int sa, .int po, .int ch, .int 0, .int on, .int li, .int sp, .int hu, .int mu])), (g0, .inr (5, [.int gp, .int gl, .int go, .int gr])), (sL, .inr (2, [.int gmc, .ref gq, .int 1])), (gq, .inl ((g.2.2.1 4), 10, .inr (.inr (.inr (.inr (va_up gf 0 (some g0)))))))] := hD
  refine W.widen (k := 0) (n := 0) (by decide) (by decide) ?_
  refine W.eq (g2 := F0 m 26 ls [.ref g0]) rfl ?_
  refine va_castE hx hb hown (G.w kw_39) (va_recv (q := (RX2, TX2, 4)) (ci := 5) (q0 := 1) G.K hP rfl rfl) dX8_burnFuel_26 ?_
  refine lv_astore_n (lv' := [(2, .ref g0), (1, .int 0), (0, .ref s0)]) hx hb dX8_burnFuel_29 rfl hl (by decide) rfl (fun ls hl => ?_)
  refine lv_aload_n hx hb dX8_burnFuel_30 rfl (lv_at hl 0 rfl) ?_
  refine lv_aload_n hx hb dX8_burnFuel_31 rfl (lv_at hl 2 rfl) ?_
  refine va_get (D := g.1) (ci := 10) (v := .int fu) (C := RX8) (T := TX8) (N := 17) hx hb G.ws inX8 hown G.K hP 0 rfl rfl 6 (by decide) (G.w kw_40) (fun _ h9 => h9) rfl dX8_burnFuel_32 ?_
  refine kcallV (wc := [(g0, .inr (5, [.int gp, .int gl, .int go, .int gr]))]) (wr := [(s0, .inr (10, [.ref sA, .ref sL, .ref sP, .ref sS, .int ea, .int no, .int fu, .int fo, .int sa, .int po, .int ch, .int 0, .int on, .int li, .int sp, .int hu, .int mu])), (sL, .inr (2, [.int gmc, .ref gq, .int 1])), (gq, .inl ((g.2.2.1 4), 10, .inr (.inr (.inr (.inr (va_up gf 0 (some g0)))))))]) (As := [.int fu]) (rest := []) K G (m_X2_canRun l hl0 g g0 gp gl go gr fu ) hP hD hS hA hl kw_41 kw_42 kw_44 kw_45 kw_43 ydX2_canRun [1] [0, 2, 3] rfl rfl rfl rfl (by decide) (ci := 5) (q0 := 1) rfl rfl rfl rfl rfl (Nat.le_of_ble_eq_true rfl) dX8_burnFuel_35 ⟨Nat.le_of_ble_eq_true rfl, Nat.le_of_ble_eq_true rfl⟩ ⟨Nat.le_of_ble_eq_true rfl, Nat.le_of_ble_eq_true rfl⟩ (fun _ _ _ _ _ _ hX _ _ _ _ _ _ => hX.elim) (fun v w1 H locs hQ hP hD hS => ?_)
  obtain ⟨rfl, rfl⟩ := hQ
  have hP : va_P g.1 vwCl [(s0, .inr (10, [.ref sA, .ref sL, .ref sP, .ref sS, .int ea, .int no, .int fu, .int fo, .int sa, .int po, .int ch, .int 0, .int on, .int li, .int sp, .int hu, .int mu])), (sL, .inr (2, [.int gmc, .ref gq, .int 1])), (gq, .inl ((g.2.2.1 4), 10, .inr (.inr (.inr (.inr (va_up gf 0 (some g0))))))), (g0, .inr (5, [.int gp, .int gl, .int go, .int gr]))] H := hP
  have hD : va_D A [(s0, .inr (10, [.ref sA, .ref sL, .ref sP, .ref sS, .int ea, .int no, .int fu, .int fo, .int sa, .int po, .int ch, .int 0, .int on, .int li, .int sp, .int hu, .int mu])), (sL, .inr (2, [.int gmc, .ref gq, .int 1])), (gq, .inl ((g.2.2.1 4), 10, .inr (.inr (.inr (.inr (va_up gf 0 (some g0))))))), (g0, .inr (5, [.int gp, .int gl, .int go, .int gr]))] := hD
  refine W.widen (k := 0) (n := 0) (by decide) (by decide) ?_
  refine W.eq (g2 := F0 m 38 ls [.int (r_X2_canRun gp gl go gr fu)]) rfl ?_
  have KJ_11 : ∀ (mv_8 : Int32) (mv_9 : Int32) (mv_10 : Int32) (hmv_8 : mv_8 = if (r_X2_canRun gp gl go gr fu) = 0 then fu else (fu - gp)) (hmv_9 : mv_9 = if (r_X2_canRun gp gl go gr fu) = 0 then 0 else 1) (hmv_10 : mv_10 = if (r_X2_canRun gp gl go gr fu) = 0 then gr else (gr + 1)) (H : Heap) (locs : List Loc), va_P g.1 vwCl [(s0, .inr (10, [.ref sA, .ref sL, .ref sP, .ref sS, .int ea, .int no, .int mv_8, .int fo, .int sa, .int po, .int ch, .int mv_9, .int on, .int li, .int sp, .int hu, .int mu])), (sL, .inr (2, [.int gmc, .ref gq, .int 1])), (gq, .inl ((g.2.2.1 4), 10, .inr (.inr (.inr (.inr (va_up gf 0 (some g0))))))), (g0, .inr (5, [.int gp, .int gl, .int go, .int mv_10]))] H → va_D A [(s0, .inr (10, [.ref sA, .ref sL, .ref sP, .ref sS, .int ea, .int no, .int mv_8, .int fo, .int sa, .int po, .int ch, .int mv_9, .int on, .int li, .int sp, .int hu, .int mu])), (sL, .inr (2, [.int gmc, .ref gq, .int 1])), (gq, .inl ((g.2.2.1 4), 10, .inr (.inr (.inr (.inr (va_up gf 0 (some g0))))))), (g0, .inr (5, [.int gp, .int gl, .int go, .int mv_10]))] → va_S A s.heap H locs → ∀ ls : Array Slot, lv_has ls 3 [(2, .ref g0), (1, .int 0), (0, .ref s0)] → W p l e (kR 3 64 0 0) s m args below meth c H locs 0 0 (vx_MQ below (kQ g (fun v w => (v = none ∧ w = [(s0, .inr (10, [.ref sA, .ref sL, .ref sP, .ref sS, .int ea, .int no, .int (r_X8_burnFuel_s0_6 fu gp gl go gr), .int fo, .int sa, .int po, .int ch, .int (r_X8_burnFuel_s0_11 fu gp gl go gr), .int on, .int li, .int sp, .int hu, .int mu])), (g0, .inr (5, [.int gp, .int gl, .int go, .int (r_X8_burnFuel_g0_3 fu gp gl go gr)])), (sL, .inr (2, [.int gmc, .ref gq, .int 1])), (gq, .inl ((g.2.2.1 4), 10, .inr (.inr (.inr (.inr (va_up gf 0 (some g0)))))))])) A) (kX g (fun _ _ => False) A) args s 0 0 A) (F0 m 76 ls []) := by
    intro mv_8 mv_9 mv_10 hmv_8 hmv_9 hmv_10 H locs hP hD hS ls hl
    refine lv_iinc (v := 1) (lv' := [(1, .int 1), (2, .ref g0), (0, .ref s0)]) hx hb dX8_burnFuel_76 hl (k := 1) rfl (by decide) (by decide) rfl (fun ls hl => ?_)
    refine lv_goto (tgt := 7) hx hb dX8_burnFuel_79 (by decide) ?_
    refine lv_iload_n hx hb dX8_burnFuel_7 rfl (lv_at hl 0 rfl) ?_
    refine lv_aload_n hx hb dX8_burnFuel_8 rfl (lv_at hl 2 rfl) ?_
    refine va_get (D := g.1) (ci := 10) (v := .ref sL) (C := RX8) (T := TX8) (N := 17) hx hb G.ws inX8 hown G.K hP 0 rfl rfl 1 (by decide) (G.w kw_30) (fun _ h9 => h9) rfl dX8_burnFuel_9 ?_
    refine kcallV (wc := [(sL, .inr (2, [.int gmc, .ref gq, .int 1]))]) (wr := [(s0, .inr (10, [.ref sA, .ref sL, .ref sP, .ref sS, .int ea, .int no, .int mv_8, .int fo, .int sa, .int po, .int ch, .int mv_9, .int on, .int li, .int sp, .int hu, .int mu])), (gq, .inl ((g.2.2.1 4), 10, .inr (.inr (.inr (.inr (va_up gf 0 (some g0))))))), (g0, .inr (5, [.int gp, .int gl, .int go, .int mv_10]))]) (As := []) (rest := [.int 1]) K G (m_Jx4a65c_size_8abf5 l hl0 g sL gq gmc 1 ) hP hD hS hA hl kw_31 kw_32 kw_33 kw_34 kw_22 ydJx4a65c_size_8abf5 [1] [0, 2, 3] rfl rfl rfl rfl (by decide) (ci := 2) (q0 := 1) rfl rfl rfl rfl rfl (Nat.le_of_ble_eq_true rfl) dX8_burnFuel_12 ⟨Nat.le_of_ble_eq_true rfl, Nat.le_of_ble_eq_true rfl⟩ ⟨Nat.le_of_ble_eq_true rfl, Nat.le_of_ble_eq_true rfl⟩ (fun _ _ _ _ _ _ hX _ _ _ _ _ _ => hX.elim) (fun v w1 H locs hQ hP hD hS => ?_)
    obtain ⟨rfl, rfl⟩ := hQ
    have hP : va_P g.1 vwCl [(s0, .inr (10, [.ref sA, .ref sL, .ref sP, .ref sS, .int ea, .int no, .int mv_8, .int fo, .int sa, .int po, .int ch, .int mv_9, .int on, .int li, .int sp, .int hu, .int mu])), (gq, .inl ((g.2.2.1 4), 10, .inr (.inr (.inr (.inr (va_up gf 0 (some g0))))))), (g0, .inr (5, [.int gp, .int gl, .int go, .int mv_10])), (sL, .inr (2, [.int gmc, .ref gq, .int 1]))] H := hP
    have hD : va_D A [(s0, .inr (10, [.ref sA, .ref sL, .ref sP, .ref sS, .int ea, .int no, .int mv_8, .int fo, .int sa, .int po, .int ch, .int mv_9, .int on, .int li, .int sp, .int hu, .int mu])), (gq, .inl ((g.2.2.1 4), 10, .inr (.inr (.inr (.inr (va_up gf 0 (some g0))))))), (g0, .inr (5, [.int gp, .int gl, .int go, .int mv_10])), (sL, .inr (2, [.int gmc, .ref gq, .int 1]))] := hD
    refine W.widen (k := 0) (n := 0) (by decide) (by decide) ?_
    refine W.eq (g2 := F0 m 15 ls [.int 1, .int 1]) rfl ?_
    refine lv_icmp_ge (tgt := 82) hx hb dX8_burnFuel_15 (by decide) (fun _ => ?_) (fun c15_13 => absurd c15_13 (by decide))
    exact kretV K hP hD hS [0, 2, 3, 1] [(s0, .inr (10, [.ref sA, .ref sL, .ref sP, .ref sS, .int ea, .int no, .int mv_8, .int fo, .int sa, .int po, .int ch, .int mv_9, .int on, .int li, .int sp, .int hu, .int mu])), (g0, .inr (5, [.int gp, .int gl, .int go, .int mv_10])), (sL, .inr (2, [.int gmc, .ref gq, .int 1])), (gq, .inl ((g.2.2.1 4), 10, .inr (.inr (.inr (.inr (va_up gf 0 (some g0)))))))] rfl rfl ⟨(by first | simp only [r_X8_burnFuel_s0_6, r_X8_burnFuel_s0_11, r_X8_burnFuel_g0_3, hmv_10, hmv_9, hmv_8] | rfl | simp [r_X8_burnFuel_s0_6, r_X8_burnFuel_s0_11, r_X8_burnFuel_g0_3, hmv_10, hmv_9, hmv_8]), (by first | simp only [r_X8_burnFuel_s0_6, r_X8_burnFuel_s0_11, r_X8_burnFuel_g0_3, hmv_10, hmv_9, hmv_8] | rfl | simp [r_X8_burnFuel_s0_6, r_X8_burnFuel_s0_11, r_X8_burnFuel_g0_3, hmv_10, hmv_9, hmv_8])⟩ (by decide) (by decide) dX8_burnFuel_82
  refine lv_if_eq (tgt := 76) hx hb dX8_burnFuel_38 (by decide) (fun c38_5 => ?_) (fun c38_5 => ?_)
  · exact KJ_11 fu 0 gr (by first | exact (if_pos c38_5).symm | simp only [if_pos c38_5]) (by first | exact (if_pos c38_5).symm | simp only [if_pos c38_5]) (by first | exact (if_pos c38_5).symm | simp only [if_pos c38_5]) _ _ (ksubP hP [0, 1, 2, 3] rfl) (hD.sub [0, 1, 2, 3] rfl rfl) hS _ (lv_sub hl [0, 1, 2] rfl)
  · refine lv_aload_n hx hb dX8_burnFuel_41 rfl (lv_at hl 2 rfl) ?_
    refine lv_dup hx hb dX8_burnFuel_42 rfl ?_
    refine va_get (D := g.1) (ci := 10) (v := .int fu) (C := RX8) (T := TX8) (N := 17) hx hb G.ws inX8 hown G.K hP 0 rfl rfl 6 (by decide) (G.w kw_40) (fun _ h9 => h9) rfl dX8_burnFuel_43 ?_
    refine lv_aload_n hx hb dX8_burnFuel_46 rfl (lv_at hl 0 rfl) ?_
    refine va_get (D := g.1) (ci := 5) (v := .int gp) (C := RX2) (T := TX2) (N := 4) hx hb G.ws inX2 hown G.K hP 3 rfl rfl 0 (by decide) (G.w kw_46) (fun _ h9 => h9) rfl dX8_burnFuel_47 ?_
    refine lv_isub hx hb dX8_burnFuel_50 ?_
    refine va_put (D := g.1) (ci := 10) (v := .int (fu - gp)) (ty := .int) (C := RX8) (T := TX8) (N := 17) hx hb G.ws inX8 tyX8 tyX8_ok nmX8 hown G.K hP hD hS 0 rfl rfl 6 (by decide) (G.w kw_40) (fun _ h9 => h9) (by decide +kernel) (by decide +kernel) rfl rfl (Nat.le_of_ble_eq_true rfl) dX8_burnFuel_51 (fun H locs hP hD hS => ?_)
    have hP : va_P g.1 vwCl [(s0, .inr (10, [.ref sA, .ref sL, .ref sP, .ref sS, .int ea, .int no, .int (fu - gp), .int fo, .int sa, .int po, .int ch, .int 0, .int on, .int li, .int sp, .int hu, .int mu])), (sL, .inr (2, [.int gmc, .ref gq, .int 1])), (gq, .inl ((g.2.2.1 4), 10, .inr (.inr (.inr (.inr (va_up gf 0 (some g0))))))), (g0, .inr (5, [.int gp, .int gl, .int go, .int gr]))] H := hP
    have hD : va_D A [(s0, .inr (10, [.ref sA, .ref sL, .ref sP, .ref sS, .int ea, .int no, .int (fu - gp), .int fo, .int sa, .int po, .int ch, .int 0, .int on, .int li, .int sp, .int hu, .int mu])), (sL, .inr (2, [.int gmc, .ref gq, .int 1])), (gq, .inl ((g.2.2.1 4), 10, .inr (.inr (.inr (.inr (va_up gf 0 (some g0))))))), (g0, .inr (5, [.int gp, .int gl, .int go, .int gr]))] := hD
    refine lv_aload_n hx hb dX8_burnFuel_54 rfl (lv_at hl 0 rfl) ?_
    refine lv_dup hx hb dX8_burnFuel_55 rfl ?_
    refine va_get (D := g.1) (ci := 5) (v := .int gr) (C := RX2) (T := TX2) (N := 4) hx hb G.ws inX2 hown G.K hP 3 rfl rfl 3 (by decide) (G.w kw_47) (fun _ h9 => h9) rfl dX8_burnFuel_56 ?_
    refine lv_iconst (v := 1) hx hb dX8_burnFuel_59 (by decide) ?_
    refine lv_iadd hx hb dX8_burnFuel_60 ?_
    refine va_put (D := g.1) (ci := 5) (v := .int (gr + 1)) (ty := .int) (C := RX2) (T := TX2) (N := 4) hx hb G.ws inX2 tyX2 tyX2_ok nmX2 hown G.K hP hD hS 3 rfl rfl 3 (by decide) (G.w kw_47) (fun _ h9 => h9) (by decide +kernel) (by decide +kernel) rfl rfl (Nat.le_of_ble_eq_true rfl) dX8_burnFuel_61 (fun H locs hP hD hS => ?_)
    have hP : va_P g.1 vwCl [(s0, .inr (10, [.ref sA, .ref sL, .ref sP, .ref sS, .int ea, .int no, .int (fu - gp), .int fo, .int sa, .int po, .int ch, .int 0, .int on, .int li, .int sp, .int hu, .int mu])), (sL, .inr (2, [.int gmc, .ref gq, .int 1])), (gq, .inl ((g.2.2.1 4), 10, .inr (.inr (.inr (.inr (va_up gf 0 (some g0))))))), (g0, .inr (5, [.int gp, .int gl, .int go, .int (gr + 1)]))] H := hP
    have hD : va_D A [(s0, .inr (10, [.ref sA, .ref sL, .ref sP, .ref sS, .int ea, .int no, .int (fu - gp), .int fo, .int sa, .int po, .int ch, .int 0, .int on, .int li, .int sp, .int hu, .int mu])), (sL, .inr (2, [.int gmc, .ref gq, .int 1])), (gq, .inl ((g.2.2.1 4), 10, .inr (.inr (.inr (.inr (va_up gf 0 (some g0))))))), (g0, .inr (5, [.int gp, .int gl, .int go, .int (gr + 1)]))] := hD
    refine lv_aload_n hx hb dX8_burnFuel_64 rfl (lv_at hl 2 rfl) ?_
    refine lv_dup hx hb dX8_burnFuel_65 rfl ?_
    refine va_get (D := g.1) (ci := 10) (v := .int 0) (C := RX8) (T := TX8) (N := 17) hx hb G.ws inX8 hown G.K hP 0 rfl rfl 11 (by decide) (G.w kw_29) (fun _ h9 => h9) rfl dX8_burnFuel_66 ?_
    refine lv_iconst (v := 1) hx hb dX8_burnFuel_69 (by decide) ?_
    refine lv_iload_n hx hb dX8_burnFuel_70 rfl (lv_at hl 1 rfl) ?_
    refine lv_ishl hx hb dX8_burnFuel_71 ?_
    refine lv_topi (fun y_6 ey_6 => ?_)
    obtain rfl : y_6 = 1 := ey_6.trans (by decide)
    refine lv_ior hx hb dX8_burnFuel_72 ?_
    refine lv_topi (fun y_7 ey_7 => ?_)
    obtain rfl : y_7 = 1 := ey_7.trans (by decide)
    refine va_put (D := g.1) (ci := 10) (v := .int 1) (ty := .int) (C := RX8) (T := TX8) (N := 17) hx hb G.ws inX8 tyX8 tyX8_ok nmX8 hown G.K hP hD hS 0 rfl rfl 11 (by decide) (G.w kw_29) (fun _ h9 => h9) (by decide +kernel) (by decide +kernel) rfl rfl (Nat.le_of_ble_eq_true rfl) dX8_burnFuel_73 (fun H locs hP hD hS => ?_)
    have hP : va_P g.1 vwCl [(s0, .inr (10, [.ref sA, .ref sL, .ref sP, .ref sS, .int ea, .int no, .int (fu - gp), .int fo, .int sa, .int po, .int ch, .int 1, .int on, .int li, .int sp, .int hu, .int mu])), (sL, .inr (2, [.int gmc, .ref gq, .int 1])), (gq, .inl ((g.2.2.1 4), 10, .inr (.inr (.inr (.inr (va_up gf 0 (some g0))))))), (g0, .inr (5, [.int gp, .int gl, .int go, .int (gr + 1)]))] H := hP
    have hD : va_D A [(s0, .inr (10, [.ref sA, .ref sL, .ref sP, .ref sS, .int ea, .int no, .int (fu - gp), .int fo, .int sa, .int po, .int ch, .int 1, .int on, .int li, .int sp, .int hu, .int mu])), (sL, .inr (2, [.int gmc, .ref gq, .int 1])), (gq, .inl ((g.2.2.1 4), 10, .inr (.inr (.inr (.inr (va_up gf 0 (some g0))))))), (g0, .inr (5, [.int gp, .int gl, .int go, .int (gr + 1)]))] := hD
    exact KJ_11 (fu - gp) 1 (gr + 1) (by first | exact (if_neg c38_5).symm | simp only [if_neg c38_5]) (by first | exact (if_neg c38_5).symm | simp only [if_neg c38_5]) (by first | exact (if_neg c38_5).symm | simp only [if_neg c38_5]) _ _ (ksubP hP [0, 1, 2, 3] rfl) (hD.sub [0, 1, 2, 3] rfl rfl) hS _ (lv_sub hl [0, 1, 2] rfl)

