def r_X11_isNight (x : Int32) : Int32 := (if (x - x / 24 * 24) < 6 then 1 else (if (x - x / 24 * 24) ≤ 17 then 0 else 1))
theorem z_r_X11_isNight (x : Int32)  : r_X11_isNight x = 0 ∨ r_X11_isNight x = 1 := by
  unfold r_X11_isNight
  repeat' first | exact Or.inl rfl | exact Or.inr rfl | assumption | refine kz_if ?_ ?_
set_option maxHeartbeats 4000000 in
set_option maxRecDepth 100000 in
theorem m_X11_isNight (l : Launch) (hl0 : l.stackTraces = false) (g : kG) (x : Int32)  : kc l g yX11_isNight prog_1_method_68_code 2 (some .boolean) 0 0 0 0 [.int x] [] (fun v w => (v = some (.int (r_X11_isNight x)) ∧ w = [])) (fun _ _ => False) := by
  refine kbody (by decide) (Nat.le_of_ble_eq_true rfl) ?_
  intro p e s m args below meth c A H K ht G hP hD hA hS ls hl
  have K : KB p s m meth c RX11 "isNight" prog_1_method_68_code 2 (some .boolean) := K
  obtain ⟨hx, hb, hml, hown, hlocks, hr, hin⟩ := id K
  have hl : lv_has ls 2 [(0, .int x)] := hl
  refine lv_iload_n hx hb dX11_isNight_0 rfl (lv_at hl 0 rfl) ?_
  refine lv_bipush (v := 24) hx hb dX11_isNight_1 (by decide) ?_
  refine lv_irem hx hb dX11_isNight_3 (by decide) ?_
  refine lv_istore_n (lv' := [(1, .int (x - x / 24 * 24)), (0, .int x)]) hx hb dX11_isNight_4 rfl hl (by decide) rfl (fun ls hl => ?_)
  refine lv_iload_n hx hb dX11_isNight_5 rfl (lv_at hl 0 rfl) ?_
  refine lv_bipush (v := 6) hx hb dX11_isNight_6 (by decide) ?_
  have KJ_6 : ∀ (mv_5 : Int32) (hmv_5 : mv_5 = if (x - x / 24 * 24) < 6 then 1 else (if (x - x / 24 * 24) ≤ 17 then 0 else 1)) (H : Heap) (locs : List Loc), va_P g.1 vwCl [] H → va_D A [] → va_S A s.heap H locs → ∀ ls : Array Slot, lv_has ls 2 [(1, .int (x - x / 24 * 24)), (0, .int x)] → W p l e (kR 0 0 0 0) s m args below meth c H locs 0 0 (vx_MQ below (kQ g (fun v w => (v = some (.int (r_X11_isNight x)) ∧ w = [])) A) (kX g (fun _ _ => False) A) args s 0 0 A) (F0 m 22 ls [.int mv_5]) := by
    intro mv_5 hmv_5 H locs hP hD hS ls hl
    exact kretZ K hP hD hS [] [] rfl rfl ⟨(by first | rfl | simp only [r_X11_isNight, hmv_5] | simp [r_X11_isNight, hmv_5]), (by first | rfl | simp only [r_X11_isNight, hmv_5] | simp [r_X11_isNight, hmv_5])⟩ (by decide) (by decide) dX11_isNight_22 (kz_nar2 (by (try simp only [hmv_5]); repeat' first | exact Or.inl rfl | exact Or.inr rfl | assumption | refine kz_if ?_ ?_ | exact z_r_X11_isNight _))
  refine lv_icmp_lt (tgt := 17) hx hb dX11_isNight_8 (by decide) (fun c8_1 => ?_) (fun c8_1 => ?_)
  · refine lv_iconst (v := 1) hx hb dX11_isNight_17 (by decide) ?_
    refine lv_goto (tgt := 22) hx hb dX11_isNight_18 (by decide) ?_
    exact KJ_6 1 (by first | exact (if_pos c8_1).symm | simp only [if_pos c8_1]) _ _ (ksubP hP [] rfl) (hD.sub [] rfl rfl) hS _ (lv_sub hl [0, 1] rfl)
  · refine lv_iload_n hx hb dX11_isNight_11 rfl (lv_at hl 0 rfl) ?_
    refine lv_bipush (v := 17) hx hb dX11_isNight_12 (by decide) ?_
    have KJ_4 : ∀ (mv_3 : Int32) (hmv_3 : mv_3 = if (x - x / 24 * 24) ≤ 17 then 0 else 1) (H : Heap) (locs : List Loc), va_P g.1 vwCl [] H → va_D A [] → va_S A s.heap H locs → ∀ ls : Array Slot, lv_has ls 2 [(1, .int (x - x / 24 * 24)), (0, .int x)] → W p l e (kR 0 0 0 0) s m args below meth c H locs 0 0 (vx_MQ below (kQ g (fun v w => (v = some (.int (r_X11_isNight x)) ∧ w = [])) A) (kX g (fun _ _ => False) A) args s 0 0 A) (F0 m 22 ls [.int mv_3]) := by
      intro mv_3 hmv_3 H locs hP hD hS ls hl
      exact KJ_6 mv_3 (by first | exact (if_neg c8_1).symm | simp only [hmv_3, if_neg c8_1]) _ _ (ksubP hP [] rfl) (hD.sub [] rfl rfl) hS _ (lv_sub hl [0, 1] rfl)
    refine lv_icmp_le (tgt := 21) hx hb dX11_isNight_14 (by decide) (fun c14_2 => ?_) (fun c14_2 => ?_)
    · refine lv_iconst (v := 0) hx hb dX11_isNight_21 (by decide) ?_
      exact KJ_4 0 (by first | exact (if_pos c14_2).symm | simp only [if_pos c14_2]) _ _ (ksubP hP [] rfl) (hD.sub [] rfl rfl) hS _ (lv_sub hl [0, 1] rfl)
    · refine lv_iconst (v := 1) hx hb dX11_isNight_17 (by decide) ?_
      refine lv_goto (tgt := 22) hx hb dX11_isNight_18 (by decide) ?_
      exact KJ_4 1 (by first | exact (if_neg c14_2).symm | simp only [if_neg c14_2]) _ _ (ksubP hP [] rfl) (hD.sub [] rfl rfl) hS _ (lv_sub hl [0, 1] rfl)

def r_X11_isTape (x : Int32) : Int32 := (if x < 100 then 0 else (if 199 < x then 0 else 1))
theorem z_r_X11_isTape (x : Int32)  : r_X11_isTape x = 0 ∨ r_X11_isTape x = 1 := by
  unfold r_X11_isTape
  repeat' first | exact Or.inl rfl | exact Or.inr rfl | assumption | refine kz_if ?_ ?_ | exact z_r_X11_isNight _
set_option maxHeartbeats 4000000 in
set_option maxRecDepth 100000 in
theorem m_X11_isTape (l : Launch) (hl0 : l.stackTraces = false) (g : kG) (x : Int32)  : kc l g yX11_isTape prog_1_method_64_code 1 (some .boolean) 0 0 0 0 [.int x] [] (fun v w => (v = some (.int (r_X11_isTape x)) ∧ w = [])) (fun _ _ => False) := by
  refine kbody (by decide) (Nat.le_of_ble_eq_true rfl) ?_
  intro p e s m args below meth c A H K ht G hP hD hA hS ls hl
  have K : KB p s m meth c RX11 "isTape" prog_1_method_64_code 1 (some .boolean) := K
  obtain ⟨hx, hb, hml, hown, hlocks, hr, hin⟩ := id K
  have hl : lv_has ls 1 [(0, .int x)] := hl
  refine lv_iload_n hx hb dX11_isTape_0 rfl (lv_at hl 0 rfl) ?_
  refine lv_bipush (v := 100) hx hb dX11_isTape_1 (by decide) ?_
  have KJ_6 : ∀ (mv_5 : Int32) (hmv_5 : mv_5 = if x < 100 then 0 else (if 199 < x then 0 else 1)) (H : Heap) (locs : List Loc), va_P g.1 vwCl [] H → va_D A [] → va_S A s.heap H locs → ∀ ls : Array Slot, lv_has ls 1 [(0, .int x)] → W p l e (kR 0 0 0 0) s m args below meth c H locs 0 0 (vx_MQ below (kQ g (fun v w => (v = some (.int (r_X11_isTape x)) ∧ w = [])) A) (kX g (fun _ _ => False) A) args s 0 0 A) (F0 m 18 ls [.int mv_5]) := by
    intro mv_5 hmv_5 H locs hP hD hS ls hl
    exact kretZ K hP hD hS [] [] rfl rfl ⟨(by first | rfl | simp only [r_X11_isTape, hmv_5] | simp [r_X11_isTape, hmv_5]), (by first | rfl | simp only [r_X11_isTape, hmv_5] | simp [r_X11_isTape, hmv_5])⟩ (by decide) (by decide) dX11_isTape_18 (kz_nar2 (by (try simp only [hmv_5]); repeat' first | exact Or.inl rfl | exact Or.inr rfl | assumption | refine kz_if ?_ ?_ | exact z_r_X11_isNight _ | exact z_r_X11_isTape _))
  refine lv_icmp_lt (tgt := 17) hx hb dX11_isTape_3 (by decide) (fun c3_1 => ?_) (fun c3_1 => ?_)
  · refine lv_iconst (v := 0) hx hb dX11_isTape_17 (by decide) ?_
    exact KJ_6 0 (by first | exact (if_pos c3_1).symm | simp only [if_pos c3_1]) _ _ (ksubP hP [] rfl) (hD.sub [] rfl rfl) hS _ (lv_sub hl [0] rfl)
  · refine lv_iload_n hx hb dX11_isTape_6 rfl (lv_at hl 0 rfl) ?_
    refine lv_sipush (v := 199) hx hb dX11_isTape_7 (by decide) ?_
    have KJ_4 : ∀ (mv_3 : Int32) (hmv_3 : mv_3 = if 199 < x then 0 else 1) (H : Heap) (locs : List Loc), va_P g.1 vwCl [] H → va_D A [] → va_S A s.heap H locs → ∀ ls : Array Slot, lv_has ls 1 [(0, .int x)] → W p l e (kR 0 0 0 0) s m args below meth c H locs 0 0 (vx_MQ below (kQ g (fun v w => (v = some (.int (r_X11_isTape x)) ∧ w = [])) A) (kX g (fun _ _ => False) A) args s 0 0 A) (F0 m 18 ls [.int mv_3]) := by
      intro mv_3 hmv_3 H locs hP hD hS ls hl
      exact KJ_6 mv_3 (by first | exact (if_neg c3_1).symm | simp only [hmv_3, if_neg c3_1]) _ _ (ksubP hP [] rfl) (hD.sub [] rfl rfl) hS _ (lv_sub hl [0] rfl)
    refine lv_icmp_gt (tgt := 17) hx hb dX11_isTape_10 (by decide) (fun c10_2 => ?_) (fun c10_2 => ?_)
    · refine lv_iconst (v := 0) hx hb dX11_isTape_17 (by decide) ?_
      exact KJ_4 0 (by first | exact (if_pos c10_2).symm | simp only [if_pos c10_2]) _ _ (ksubP hP [] rfl) (hD.sub [] rfl rfl) hS _ (lv_sub hl [0] rfl)
    · refine lv_iconst (v := 1) hx hb dX11_isTape_13 (by decide) ?_
      refine lv_goto (tgt := 18) hx hb dX11_isTape_14 (by decide) ?_
      exact KJ_4 1 (by first | exact (if_neg c10_2).symm | simp only [if_neg c10_2]) _ _ (ksubP hP [] rfl) (hD.sub [] rfl rfl) hS _ (lv_sub hl [0] rfl)

def r_X11_holdOf (x : Int32) : Int32 := (if x = 115 then 8 else (if x = 109 then 6 else (if x = 114 then 4 else 0)))
set_option maxHeartbeats 4000000 in
set_option maxRecDepth 100000 in
theorem m_X11_holdOf (l : Launch) (hl0 : l.stackTraces = false) (g : kG) (x : Int32)  : kc l g yX11_holdOf prog_1_method_65_code 1 (some .int) 0 0 0 0 [.int x] [] (fun v w => (v = some (.int (r_X11_holdOf x)) ∧ w = [])) (fun _ _ => False) := by
  refine kbody (by decide) (Nat.le_of_ble_eq_true rfl) ?_
  intro p e s m args below meth c A H K ht G hP hD hA hS ls hl
  have K : KB p s m meth c RX11 "holdOf" prog_1_method_65_code 1 (some .int) := K
  obtain ⟨hx, hb, hml, hown, hlocks, hr, hin⟩ := id K
  have hl : lv_has ls 1 [(0, .int x)] := hl
  refine lv_iload_n hx hb dX11_holdOf_0 rfl (lv_at hl 0 rfl) ?_
  refine lv_bipush (v := 115) hx hb dX11_holdOf_1 (by decide) ?_
  have KJ_9 : ∀ (mv_8 : Int32) (hmv_8 : mv_8 = if x = 115 then 8 else (if x = 109 then 6 else (if x = 114 then 4 else 0))) (H : Heap) (locs : List Loc), va_P g.1 vwCl [] H → va_D A [] → va_S A s.heap H locs → ∀ ls : Array Slot, lv_has ls 1 [(0, .int x)] → W p l e (kR 0 0 0 0) s m args below meth c H locs 0 0 (vx_MQ below (kQ g (fun v w => (v = some (.int (r_X11_holdOf x)) ∧ w = [])) A) (kX g (fun _ _ => False) A) args s 0 0 A) (F0 m 33 ls [.int mv_8]) := by
    intro mv_8 hmv_8 H locs hP hD hS ls hl
    exact kretI K hP hD hS [] [] rfl rfl ⟨(by first | rfl | simp only [r_X11_holdOf, hmv_8] | simp [r_X11_holdOf, hmv_8]), (by first | rfl | simp only [r_X11_holdOf, hmv_8] | simp [r_X11_holdOf, hmv_8])⟩ (by decide) (by decide) dX11_holdOf_33
  refine lv_icmp_ne (tgt := 11) hx hb dX11_holdOf_3 (by decide) (fun c3_1 => ?_) (fun c3_1 => ?_)
  · refine lv_iload_n hx hb dX11_holdOf_11 rfl (lv_at hl 0 rfl) ?_
    refine lv_bipush (v := 109) hx hb dX11_holdOf_12 (by decide) ?_
    have KJ_7 : ∀ (mv_6 : Int32) (hmv_6 : mv_6 = if x = 109 then 6 else (if x = 114 then 4 else 0)) (H : Heap) (locs : List Loc), va_P g.1 vwCl [] H → va_D A [] → va_S A s.heap H locs → ∀ ls : Array Slot, lv_has ls 1 [(0, .int x)] → W p l e (kR 0 0 0 0) s m args below meth c H locs 0 0 (vx_MQ below (kQ g (fun v w => (v = some (.int (r_X11_holdOf x)) ∧ w = [])) A) (kX g (fun _ _ => False) A) args s 0 0 A) (F0 m 33 ls [.int mv_6]) := by
      intro mv_6 hmv_6 H locs hP hD hS ls hl
      exact KJ_9 mv_6 (by first | exact (if_neg c3_1).symm | simp only [hmv_6, if_neg c3_1]) _ _ (ksubP hP [] rfl) (hD.sub [] rfl rfl) hS _ (lv_sub hl [0] rfl)
    refine lv_icmp_ne (tgt := 22) hx hb dX11_holdOf_14 (by decide) (fun c14_2 => ?_) (fun c14_2 => ?_)
    · refine lv_iload_n hx hb dX11_holdOf_22 rfl (lv_at hl 0 rfl) ?_
      refine lv_bipush (v := 114) hx hb dX11_holdOf_23 (by decide) ?_
      have KJ_5 : ∀ (mv_4 : Int32) (hmv_4 : mv_4 = if x = 114 then 4 else 0) (H : Heap) (locs : List Loc), va_P g.1 vwCl [] H → va_D A [] → va_S A s.heap H locs → ∀ ls : Array Slot, lv_has ls 1 [(0, .int x)] → W p l e (kR 0 0 0 0) s m args below meth c H locs 0 0 (vx_MQ below (kQ g (fun v w => (v = some (.int (r_X11_holdOf x)) ∧ w = [])) A) (kX g (fun _ _ => False) A) args s 0 0 A) (F0 m 33 ls [.int mv_4]) := by
        intro mv_4 hmv_4 H locs hP hD hS ls hl
        exact KJ_7 mv_4 (by first | exact (if_neg c14_2).symm | simp only [hmv_4, if_neg c14_2]) _ _ (ksubP hP [] rfl) (hD.sub [] rfl rfl) hS _ (lv_sub hl [0] rfl)
      refine lv_icmp_ne (tgt := 32) hx hb dX11_holdOf_25 (by decide) (fun c25_3 => ?_) (fun c25_3 => ?_)
      · refine lv_iconst (v := 0) hx hb dX11_holdOf_32 (by decide) ?_
        exact KJ_5 0 (by first | exact (if_neg c25_3).symm | simp only [if_neg c25_3]) _ _ (ksubP hP [] rfl) (hD.sub [] rfl rfl) hS _ (lv_sub hl [0] rfl)
      · refine lv_iconst (v := 4) hx hb dX11_holdOf_28 (by decide) ?_
        refine lv_goto (tgt := 33) hx hb dX11_holdOf_29 (by decide) ?_
        exact KJ_5 4 (by first | exact (if_pos c25_3).symm | simp only [if_pos c25_3]) _ _ (ksubP hP [] rfl) (hD.sub [] rfl rfl) hS _ (lv_sub hl [0] rfl)
    · refine lv_bipush (v := 6) hx hb dX11_holdOf_17 (by decide) ?_
      refine lv_goto (tgt := 33) hx hb dX11_holdOf_19 (by decide) ?_
      exact KJ_7 6 (by first | exact (if_pos c14_2).symm | simp only [if_pos c14_2]) _ _ (ksubP hP [] rfl) (hD.sub [] rfl rfl) hS _ (lv_sub hl [0] rfl)
  · refine lv_bipush (v := 8) hx hb dX11_holdOf_6 (by decide) ?_
    refine lv_goto (tgt := 33) hx hb dX11_holdOf_8 (by decide) ?_
    exact KJ_9 8 (by first | exact (if_pos c3_1).symm | simp only [if_pos c3_1]) _ _ (ksubP hP [] rfl) (hD.sub [] rfl rfl) hS _ (lv_sub hl [0] rfl)

