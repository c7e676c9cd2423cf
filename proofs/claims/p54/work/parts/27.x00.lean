theorem lq_fu1 (fu gp gl gr : Int32) : (fu - (if ((if fu < gp then 0 else (if gl ≤ gr then 0 else 1)) : Int32) = 0 then 0 else gp)) = r_X11_runGenerators_s0_6 fu gp gl 1 gr := by
  unfold r_X11_runGenerators_s0_6 r_X8_burnFuel_s0_6 r_X2_canRun
  by_cases h1 : fu < gp <;> by_cases h2 : gl ≤ gr <;> simp [h1, h2]
theorem lq_gr1 (fu gp gl gr : Int32) : (gr + (if ((if fu < gp then 0 else (if gl ≤ gr then 0 else 1)) : Int32) = 0 then 0 else 1)) = r_X11_runGenerators_g0_3 fu gp gl 1 gr := by
  unfold r_X11_runGenerators_g0_3 r_X8_burnFuel_g0_3 r_X2_canRun
  by_cases h1 : fu < gp <;> by_cases h2 : gl ≤ gr <;> simp [h1, h2]
theorem lq_pos {po : Int32} (h : ¬ po ≤ 0) : (0 : Int32) ≤ po := by
  have := Int32.lt_iff_toInt_lt.mp (Int32.not_le.mp h)
  exact Int32.le_iff_toInt_le.mpr (by omega)
theorem lq_on1 (fu gp gl gr po mu ch rb1 : Int32) (hch : ¬ ch = -1) (erb1 : rb1 = (r_X11_runGenerators_s0_11 fu gp gl 1 gr)) : (if ((if fu < gp then 0 else (if gl ≤ gr then 0 else 1)) : Int32) = 0 then 0 else (if po ≤ 0 then 0 else (if gp ≤ po then 0 else (if mu = 0 then 1 else 0)))) = (r_X11_goOnAir_s0_12 po ch rb1 mu gp) := by
  rw [erb1]
  unfold r_X11_goOnAir_s0_12 r_X8_canSend r_X8_powerOf r_X11_runGenerators_s0_11 r_X8_burnFuel_s0_11 r_X2_canRun
  have e0 : (0 : Int32) &&& 1 = 0 := by decide
  have e1 : (1 : Int32) &&& 1 = 1 := by decide
  by_cases h3 : po ≤ 0
  · by_cases h1 : fu < gp <;> by_cases h2 : gl ≤ gr <;> simp [h1, h2, h3, hch]
  · have h0 := lq_pos h3
    by_cases h1 : fu < gp <;> by_cases h2 : gl ≤ gr <;> by_cases h4 : gp ≤ po <;> by_cases h5 : mu = 0 <;> simp [h1, h2, h3, h4, h5, hch, h0, e0, e1]
theorem lq_mx (a b : Int32) : (if a ≤ b then b else a) = (if a < b then b else a) := by
  by_cases h : a ≤ b
  · rw [if_pos h]
    by_cases h2 : a < b
    · rw [if_pos h2]
    · rw [if_neg h2]
      have x := Int32.le_iff_toInt_le.mp h
      have y := Int32.le_iff_toInt_le.mp (Int32.not_lt.mp h2)
      exact Int32.toInt_inj.mp (by omega)
  · rw [if_neg h, if_neg (fun q => h (Int32.le_iff_toInt_le.mpr (by have := Int32.lt_iff_toInt_lt.mp q; omega)))]
theorem lq_ab (d : Int32) : (if 0 ≤ d then d else (-d)) = (if 0 ≤ d then d else 0 - d) := by rw [Int32.zero_sub]
theorem lq_st (D o : Int32) : (if D < 6 then 2000 else (if 18 ≤ D then 2000 else 1000)) * o = 1000 * o * (if ((if D < 6 then 1 else (if D ≤ 17 then 0 else 1)) : Int32) = 0 then 1 else 2) := by
  have k : ∀ o : Int32, 2000 * o = 1000 * o * 2 := fun o => by
    rw [Int32.mul_comm 1000 o, Int32.mul_assoc, show (1000 : Int32) * 2 = 2000 from by decide, Int32.mul_comm]
  have q : (18 ≤ D) = ¬ (D ≤ 17) := by
    apply propext
    have a : (18 : Int32).toInt = 18 := by decide
    have b : (17 : Int32).toInt = 17 := by decide
    rw [Int32.le_iff_toInt_le, Int32.le_iff_toInt_le, a, b]
    omega
  by_cases h1 : D < 6
  · simp [h1, k]
  · by_cases h2 : D ≤ 17 <;> simp [h1, h2, k, q]
theorem lq_o1 (X : Int32) : (if 1 ≤ X then X else 1) = (if 1 < X then X else 1) := by
  have := lq_mx 1 X
  by_cases h : 1 ≤ X
  · rw [if_pos h] at this ⊢; exact this
  · rw [if_neg h] at this ⊢; exact this
theorem lq_sg (hn : Nat) (ea no sa po tx ty : Int32) : (((if (nI hn - nI hn / 24 * 24) < 6 then 2000 else (if 18 ≤ (nI hn - nI hn / 24 * 24) then 2000 else 1000)) * (if 1 ≤ ((po * (10 - sa)) / 10) then ((po * (10 - sa)) / 10) else 1)) / (((if (if 0 ≤ (ea - tx) then (ea - tx) else (-(ea - tx))) ≤ (if 0 ≤ (no - ty) then (no - ty) else (-(no - ty))) then (if 0 ≤ (no - ty) then (no - ty) else (-(no - ty))) else (if 0 ≤ (ea - tx) then (ea - tx) else (-(ea - tx)))) * (if (if 0 ≤ (ea - tx) then (ea - tx) else (-(ea - tx))) ≤ (if 0 ≤ (no - ty) then (no - ty) else (-(no - ty))) then (if 0 ≤ (no - ty) then (no - ty) else (-(no - ty))) else (if 0 ≤ (ea - tx) then (ea - tx) else (-(ea - tx))))) + 10)) = (r_X11_signalOf (nI hn) ea no sa po tx ty) := by
  unfold r_X11_signalOf r_X8_output r_X11_isNight r_X11_apart
  rw [lq_o1, lq_st, lq_ab, lq_ab, lq_mx]
theorem lq_cp0 (tm th tmb thb tmc thc : Int32) : r_X11_countPayingThousands0 tm th tmb thb tmc thc = kadd thc 0 (kadd thb 0 (kadd th 0 0 tm) tmb) tmc := by
  unfold r_X11_countPayingThousands0 kadd
  rfl
theorem lq_cp1 (tm th tmb thb tmc thc : Int32) : r_X11_countPayingThousands1 tm th tmb thb tmc thc = kadd thc 1 (kadd thb 1 (kadd th 1 0 tm) tmb) tmc := by
  unfold r_X11_countPayingThousands1 kadd
  rfl
theorem lq_bl1 (on1 bl : Int32) : (bl - (if ((if on1 = 0 then 0 else (if bl ≤ 0 then 0 else 1)) : Int32) = 0 then 0 else 1)) = r_X11_playSpots_sS_0 on1 bl := by
  unfold r_X11_playSpots_sS_0 r_X9_playOne_b0_0
  by_cases h1 : on1 = 0 <;> by_cases h2 : bl ≤ 0 <;> simp [h1, h2]
theorem lq_be1 (on1 bl be li1 tm hd tmb hdb tmc hdc : Int32) (eli1 : li1 = (kadd hdc 0 (kadd hdb 0 (kadd hd 0 0 tm) tmb) tmc)) : (be + (if ((if on1 = 0 then 0 else (if bl ≤ 0 then 0 else 1)) : Int32) = 0 then 0 else (li1 / 10))) = (r_X11_playSpots_sS_3 on1 tm hd tmb hdb tmc hdc bl be) := by
  unfold r_X11_playSpots_sS_3 r_X9_playOne_b0_3
  rw [lq_cp0, ← eli1]
  by_cases h1 : on1 = 0 <;> by_cases h2 : bl ≤ 0 <;> simp [h1, h2]
theorem lq_be1b (on1 bl be li1 tm hd tmb hdb tmc hdc : Int32) (eli1 : li1 = (kadd hdc 1 (kadd hdb 1 (kadd hd 1 0 tm) tmb) tmc)) : (be + (if ((if on1 = 0 then 0 else (if bl ≤ 0 then 0 else 1)) : Int32) = 0 then 0 else (li1 / 10))) = (r_X11_playSpots_sSb_3 on1 tm hd tmb hdb tmc hdc bl be) := by
  unfold r_X11_playSpots_sSb_3 r_X9_playOne_b0_3
  rw [lq_cp1, ← eli1]
  by_cases h1 : on1 = 0 <;> by_cases h2 : bl ≤ 0 <;> simp [h1, h2]
theorem lq_fo1 (fo : Int32) (hfo : ¬ fo < 0) : (fo - (if 1 ≤ fo then 1 else 0)) = (r_X11_eatAndTire_s0_7 fo) := by
  unfold r_X11_eatAndTire_s0_7 r_X8_feed_s0_7
  have z : (0 : Int32).toInt = 0 := by decide
  have o : (1 : Int32).toInt = 1 := by decide
  have a := Int32.le_iff_toInt_le.mp (Int32.not_lt.mp hfo)
  rw [z] at a
  have b : fo.toInt < 2147483648 := by have := Int32.toInt_lt fo; simpa using this
  have e : (fo - 1).toInt = fo.toInt - 1 := by
    rw [Int32.toInt_sub, o]
    exact Int.bmod_eq_of_le (by omega) (by omega)
  by_cases h : 1 ≤ fo
  · rw [if_pos h]
    have h' := Int32.le_iff_toInt_le.mp h
    rw [o] at h'
    by_cases h2 : 0 < fo - 1
    · rw [if_pos h2]
    · rw [if_neg h2]
      have h3 := Int32.le_iff_toInt_le.mp (Int32.not_lt.mp h2)
      rw [z, e] at h3
      exact Int32.toInt_inj.mp (by rw [e, z]; omega)
  · rw [if_neg h]
    have h' := Int32.lt_iff_toInt_lt.mp (Int32.not_le.mp h)
    rw [o] at h'
    have : fo = 0 := Int32.toInt_inj.mp (by rw [z]; omega)
    subst this
    decide
theorem lq_hu1 (fo hu : Int32) : (if 1 ≤ fo then 0 else (hu + 1)) = (r_X11_eatAndTire_s0_15 fo hu) := rfl
theorem lq_mu1 (fo hu mu hu1 : Int32) (hmu : mu = 0 ∨ mu = 1) (ehu1 : hu1 = (r_X11_eatAndTire_s0_15 fo hu)) : (mu ||| (if hu1 < 24 then 0 else 1)) = (r_X11_eatAndTire_s0_16 fo hu mu) := by
  rw [ehu1]
  unfold r_X11_eatAndTire_s0_16 r_X11_eatAndTire_s0_15 r_X8_feed_s0_15 r_X8_feed_s0_16
  have e0 : (0 : Int32) ||| 0 = 0 := by decide
  have e1 : (0 : Int32) ||| 1 = 1 := by decide
  have e2 : (1 : Int32) ||| 0 = 1 := by decide
  have e3 : (1 : Int32) ||| 1 = 1 := by decide
  by_cases h : (if 1 ≤ fo then 0 else hu + 1) < 24
  · rw [if_pos h, if_pos h]
    rcases hmu with rfl | rfl
    · exact e0
    · exact e2
  · rw [if_neg h, if_neg h]
    rcases hmu with rfl | rfl
    · exact e1
    · exact e3
theorem lq_sa1 (zf1 sa : Int32) (hsa : sa ≤ 8) : (sa + (if zf1 < 7 then 0 else (if 8 ≤ sa then 0 else 1))) = (r_X11_gatherSalt_s0_8 zf1 sa) := by
  unfold r_X11_gatherSalt_s0_8
  have o : (1 : Int32).toInt = 1 := by decide
  have t : (8 : Int32).toInt = 8 := by decide
  by_cases h1 : zf1 < 7
  · rw [if_pos h1, if_pos h1, Int32.add_zero]
  · rw [if_neg h1, if_neg h1]
    have a := Int32.le_iff_toInt_le.mp hsa
    rw [t] at a
    have b : -2147483648 ≤ sa.toInt := by have := Int32.le_toInt sa; simpa using this
    have e : (sa + 1).toInt = sa.toInt + 1 := by
      rw [Int32.toInt_add, o]
      exact Int.bmod_eq_of_le (by omega) (by omega)
    by_cases h2 : 8 ≤ sa
    · rw [if_pos h2, Int32.add_zero]
      have h2 := Int32.le_iff_toInt_le.mp h2
      rw [t] at h2
      rw [if_neg (fun q => by have q := Int32.lt_iff_toInt_lt.mp q; rw [e, t] at q; omega)]
      exact Int32.toInt_inj.mp (by rw [t]; omega)
    · rw [if_neg h2]
      have h2 := Int32.lt_iff_toInt_lt.mp (Int32.not_le.mp h2)
      rw [t] at h2
      by_cases h3 : sa + 1 < 8
      · rw [if_pos h3]
      · rw [if_neg h3]
        have h3 := Int32.le_iff_toInt_le.mp (Int32.not_lt.mp h3)
        rw [e, t] at h3
        exact Int32.toInt_inj.mp (by rw [e, t]; omega)
theorem lq_sp (on1 sp sp1 : Int32) (esp1 : sp1 = (r_X11_speak_s0_14 on1 sp)) : (if on1 = 0 then (-900002) else sp1) = (if on1 = 0 then (-900002) else 200) := by
  rw [esp1]
  unfold r_X11_speak_s0_14
  by_cases h : on1 = 0 <;> simp [h]
theorem lq_hd (hn : Nat) (ea no sa po ch on1 eab nob sab pob chb on1b tx ty sg00 sg01 : Int32) (e0 : sg00 = (r_X11_signalOf (nI hn) ea no sa po tx ty)) (e1 : sg01 = (r_X11_signalOf (nI hn) eab nob sab pob tx ty)) :
    (if ((if ch = chb then (if on1 = 0 then ((if on1 = 0 then 0 else (if sg00 < 20 then 0 else 1)) : Int32) else (if on1b = 0 then (if on1 = 0 then 0 else (if sg00 < 20 then 0 else 1)) else ((if on1 = 0 then 0 else (if sg00 < 20 then 0 else 1)) &&& (if sg00 < (2 * sg01) then 0 else 1)))) else (if on1 = 0 then 0 else (if sg00 < 20 then 0 else 1))) : Int32) = 0 then (if ((if ch = chb then (if on1 = 0 then ((if on1b = 0 then 0 else (if sg01 < 20 then 0 else 1)) : Int32) else (if on1b = 0 then (if on1b = 0 then 0 else (if sg01 < 20 then 0 else 1)) else ((if on1b = 0 then 0 else (if sg01 < 20 then 0 else 1)) &&& (if sg01 < (2 * sg00) then 0 else 1)))) else (if on1b = 0 then 0 else (if sg01 < 20 then 0 else 1))) : Int32) = 0 then (-1) else 1) else (if ((if ch = chb then (if on1 = 0 then ((if on1b = 0 then 0 else (if sg01 < 20 then 0 else 1)) : Int32) else (if on1b = 0 then (if on1b = 0 then 0 else (if sg01 < 20 then 0 else 1)) else ((if on1b = 0 then 0 else (if sg01 < 20 then 0 else 1)) &&& (if sg01 < (2 * sg00) then 0 else 1)))) else (if on1b = 0 then 0 else (if sg01 < 20 then 0 else 1))) : Int32) = 0 then 0 else (if sg00 < sg01 then (if ((if ch = chb then (if on1 = 0 then ((if on1b = 0 then 0 else (if sg01 < 20 then 0 else 1)) : Int32) else (if on1b = 0 then (if on1b = 0 then 0 else (if sg01 < 20 then 0 else 1)) else ((if on1b = 0 then 0 else (if sg01 < 20 then 0 else 1)) &&& (if sg01 < (2 * sg00) then 0 else 1)))) else (if on1b = 0 then 0 else (if sg01 < 20 then 0 else 1))) : Int32) = 0 then (-1) else 1) else 0))) = (r_X11_strongestHeard (nI hn) ea no sa po ch on1 eab nob sab pob chb on1b tx ty) := by
  unfold r_X11_strongestHeard r_X11_disturbance
  rw [← e0, ← e1]
  have a00 : (0 : Int32) &&& 0 = 0 := by decide
  have a01 : (0 : Int32) &&& 1 = 0 := by decide
  have a10 : (1 : Int32) &&& 0 = 0 := by decide
  have a11 : (1 : Int32) &&& 1 = 1 := by decide
  have z2 : (2 : Int32) * 0 = 0 := by decide
  have n01 : ¬ (0 : Int32) = 1 := by decide
  have n10 : ¬ (1 : Int32) = 0 := by decide
  have l020 : (0 : Int32) < 20 := by decide
  have l00 : (0 : Int32) ≤ 0 := by decide
  have z : (0 : Int32).toInt = 0 := by decide
  have t : (20 : Int32).toInt = 20 := by decide
  generalize sg00 = S0
  generalize sg01 = S1
  have hand : ∀ (p q : Prop) [Decidable p] [Decidable q], ((if p then (0 : Int32) else 1) &&& (if q then 0 else 1)) = (if p then 0 else if q then 0 else 1) := by
    intro p q _ _
    by_cases hp : p <;> by_cases hq : q <;> simp only [hp, hq, if_true, if_false] <;> decide
  have hif : ∀ (p : Prop) [Decidable p] (x A B : Int32), (if (if p then (0 : Int32) else x) = 0 then A else B) = (if p then A else (if x = 0 then A else B)) := by
    intro p _ x A B
    by_cases hp : p <;> simp only [hp, if_true, if_false]
  have hone : ∀ A B : Int32, (if (1 : Int32) = 0 then A else B) = B := fun A B => if_neg (by decide)
  have hsym : (chb = ch) = (ch = chb) := propext ⟨Eq.symm, Eq.symm⟩
  by_cases h0 : on1 = 0 <;> by_cases h1 : on1b = 0 <;> by_cases hc : ch = chb
  all_goals simp only [h0, h1, hc, hsym, hand, hif, hone, if_true, if_false, Int32.zero_add, z2, n01, n10, l020, l00]
  all_goals clear h0 h1 hc hsym hand hif hone
  all_goals generalize 2 * S0 = D0
  all_goals generalize 2 * S1 = D1
  all_goals repeat' split
  all_goals first
    | rfl
    | (exfalso; simp only [Int32.lt_iff_toInt_lt, Int32.le_iff_toInt_le, z, t] at *; omega)
def mvB (zf bt : Int32) : Int32 := (if bt = 3 then (zf / 2) else (if zf ≤ (8 - (2 * bt)) then 0 else (zf - (8 - (2 * bt)))))
def mvS (D bt : Int32) : Int32 := (if 3 ≤ bt then (if D < 6 then (if D < 18 then 1 else (-1)) else (if D < 12 then (-1) else (if D < 18 then 1 else (-1)))) else 0)
def mvE (wy b : Int32) : Int32 := (if wy = 1 then b else (if wy = 3 then (-b) else 0))
def mvN (wy b : Int32) : Int32 := (if wy = 0 then b else (if wy = 2 then (-b) else 0))
theorem mvE_an : ∀ z : Fin 13, ∀ w : Fin 4, ∀ b : Fin 3, mvE (nI w) (mvB (nI z) (nI b)) = (if 0 < (nI z - (8 - 2 * nI b)) then (nI z - (8 - 2 * nI b)) else 0) * r_X11_windEast (wchar (nI w)) ∧ -9 ≤ (mvE (nI w) (mvB (nI z) (nI b))).toInt ∧ (mvE (nI w) (mvB (nI z) (nI b))).toInt ≤ 9 := by decide +kernel
theorem mvN_an : ∀ z : Fin 13, ∀ w : Fin 4, ∀ b : Fin 3, mvN (nI w) (mvB (nI z) (nI b)) = (if 0 < (nI z - (8 - 2 * nI b)) then (nI z - (8 - 2 * nI b)) else 0) * r_X11_windNorth (wchar (nI w)) ∧ -9 ≤ (mvN (nI w) (mvB (nI z) (nI b))).toInt ∧ (mvN (nI w) (mvB (nI z) (nI b))).toInt ≤ 9 := by decide +kernel
theorem mvE_dr : ∀ z : Fin 13, ∀ w : Fin 4, mvE (nI w) (mvB (nI z) 3) = (nI z / 2) * r_X11_windEast (wchar (nI w)) ∧ -6 ≤ (mvE (nI w) (mvB (nI z) 3)).toInt ∧ (mvE (nI w) (mvB (nI z) 3)).toInt ≤ 6 := by decide +kernel
theorem mvN_dr : ∀ z : Fin 13, ∀ w : Fin 4, mvN (nI w) (mvB (nI z) 3) = (nI z / 2) * r_X11_windNorth (wchar (nI w)) ∧ -6 ≤ (mvN (nI w) (mvB (nI z) 3)).toInt ∧ (mvN (nI w) (mvB (nI z) 3)).toInt ≤ 6 := by decide +kernel
theorem mvS_dr : ∀ h : Fin 50, mvS (nI h - nI h / 24 * 24) 3 = (if (((nI h - nI h / 24 * 24) / 6) - ((nI h - nI h / 24 * 24) / 6) / 2 * 2) = 0 then 1 else (-1)) ∧ (mvS (nI h - nI h / 24 * 24) 3 = 1 ∨ mvS (nI h - nI h / 24 * 24) 3 = -1) := by decide +kernel
theorem mvS_an : ∀ D : Int32, ∀ b : Fin 3, mvS D (nI b) = 0 := by
  intro D b
  unfold mvS
  rw [if_neg ((by decide +kernel : ∀ b : Fin 3, ¬ (3 : Int32) ≤ nI b) b)]
theorem mvT : ∀ t : Fin 7, (1 * (nI t - 3) : Int32).toInt = (t : Int) - 3 ∧ ((-1) * (nI t - 3) : Int32).toInt = 3 - (t : Int) := by decide +kernel
theorem mvW {y : Int32} (h1 : -998 ≤ y.toInt) (h2 : y.toInt ≤ 998) : r_X11_within y = y := by
  unfold r_X11_within
  have a : (999 : Int32).toInt = 999 := by decide
  have b : (-999 : Int32).toInt = -999 := by decide
  have c : y < 999 := Int32.lt_iff_toInt_lt.mpr (by rw [a]; omega)
  have d : (-999) < y := Int32.lt_iff_toInt_lt.mpr (by rw [b]; omega)
  rw [if_pos c, if_pos d]
theorem mvA {ea x : Int32} (h1 : -9 ≤ x.toInt) (h2 : x.toInt ≤ 9) (a : -600 ≤ ea.toInt) (b : ea.toInt ≤ 600) : (ea + x).toInt = ea.toInt + x.toInt := by
  rw [Int32.toInt_add]
  exact Int.bmod_eq_of_le (by omega) (by omega)
theorem kfin {z : Int32} {n : Nat} (hn : n < 100) (h0 : ¬ z < 0) (h1 : z < nI n) : ∃ k : Fin n, z = nI k := by
  have z0 : (0 : Int32).toInt = 0 := by decide
  have a := Int32.le_iff_toInt_le.mp (Int32.not_lt.mp h0)
  have b := Int32.lt_iff_toInt_lt.mp h1
  rw [z0] at a
  rw [nI_toInt (by omega)] at b
  refine ⟨⟨z.toInt.toNat, by omega⟩, Int32.toInt_inj.mp ?_⟩
  rw [nI_toInt (by show z.toInt.toNat < _; omega)]
  show z.toInt = (z.toInt.toNat : Int)
  omega
/-- how a ship moves in an hour: as the law says, by nine at most -/
theorem mvX {wE : Int32 → Int32} {mE : Int32 → Int32 → Int32} (hA : ∀ z : Fin 13, ∀ w : Fin 4, ∀ b : Fin 3, mE (nI w) (mvB (nI z) (nI b)) = (if 0 < (nI z - (8 - 2 * nI b)) then (nI z - (8 - 2 * nI b)) else 0) * wE (wchar (nI w)) ∧ -9 ≤ (mE (nI w) (mvB (nI z) (nI b))).toInt ∧ (mE (nI w) (mvB (nI z) (nI b))).toInt ≤ 9)
    (hB : ∀ z : Fin 13, ∀ w : Fin 4, mE (nI w) (mvB (nI z) 3) = (nI z / 2) * wE (wchar (nI w)) ∧ -6 ≤ (mE (nI w) (mvB (nI z) 3)).toInt ∧ (mE (nI w) (mvB (nI z) 3)).toInt ≤ 6)
    {hn : Nat} (hhn : hn < 50) {zf1 wy bt nd nh ze ea : Int32} (hzf1 : ¬ zf1 < 0) (hzf13 : zf1 < 13) (hw : wy = 0 ∨ wy = 1 ∨ wy = 2 ∨ wy = 3) (hbt : (bt = 3 ∧ nd = 0) ∨ ((bt = 0 ∨ bt = 1 ∨ bt = 2) ∧ nd = 1 ∧ nh = 8 - 2 * bt)) (hze : ∃ t : Fin 7, ze = nI t - 3) (h1 : -(99 + 9 * (hn : Int)) ≤ ea.toInt) (h2 : ea.toInt ≤ 99 + 9 * (hn : Int)) :
    ea + (mE wy (mvB zf1 bt) + mvS (nI hn - nI hn / 24 * 24) bt * ze) = (if nd = 0 then r_X11_within (ea + (((zf1 / 2) * wE (wchar wy)) + ((if (((nI hn - nI hn / 24 * 24) / 6) - ((nI hn - nI hn / 24 * 24) / 6) / 2 * 2) = 0 then 1 else (-1)) * ze))) else r_X11_within (ea + ((if 0 < (zf1 - nh) then (zf1 - nh) else 0) * wE (wchar wy)))) ∧
    -(99 + 9 * ((hn + 1 : Nat) : Int)) ≤ (ea + (mE wy (mvB zf1 bt) + mvS (nI hn - nI hn / 24 * 24) bt * ze)).toInt ∧ (ea + (mE wy (mvB zf1 bt) + mvS (nI hn - nI hn / 24 * 24) bt * ze)).toInt ≤ 99 + 9 * ((hn + 1 : Nat) : Int) := by
  obtain ⟨z, rfl⟩ := kfin (n := 13) (by decide) hzf1 hzf13
  obtain ⟨w, rfl⟩ : ∃ w : Fin 4, wy = nI w := by
    rcases hw with rfl | rfl | rfl | rfl
    · exact ⟨0, rfl⟩
    · exact ⟨1, rfl⟩
    · exact ⟨2, rfl⟩
    · exact ⟨3, rfl⟩
  rcases hbt with ⟨rfl, rfl⟩ | ⟨hb, rfl, rfl⟩
  · obtain ⟨e, b1, b2⟩ := hB z w
    obtain ⟨es, s1⟩ := mvS_dr ⟨hn, hhn⟩
    obtain ⟨t, rfl⟩ := hze
    obtain ⟨t1, t2⟩ := mvT t
    have ht : (t : Nat) < 7 := t.2
    have k1 : -3 ≤ (mvS (nI hn - nI hn / 24 * 24) 3 * (nI t - 3)).toInt ∧ (mvS (nI hn - nI hn / 24 * 24) 3 * (nI t - 3)).toInt ≤ 3 := by
      rcases s1 with s1 | s1
      · rw [show mvS (nI hn - nI hn / 24 * 24) 3 = 1 from s1, t1]; omega
      · rw [show mvS (nI hn - nI hn / 24 * 24) 3 = -1 from s1, t2]; omega
    have k2 : (mE (nI w) (mvB (nI z) 3) + mvS (nI hn - nI hn / 24 * 24) 3 * (nI t - 3)).toInt = (mE (nI w) (mvB (nI z) 3)).toInt + (mvS (nI hn - nI hn / 24 * 24) 3 * (nI t - 3)).toInt := by
      rw [Int32.toInt_add]
      exact Int.bmod_eq_of_le (by omega) (by omega)
    have k3 := mvA (ea := ea) (x := mE (nI w) (mvB (nI z) 3) + mvS (nI hn - nI hn / 24 * 24) 3 * (nI t - 3)) (by omega) (by omega) (by omega) (by omega)
    refine ⟨?_, by omega, by omega⟩
    rw [if_pos rfl, ← e, ← show mvS (nI hn - nI hn / 24 * 24) 3 = _ from es]
    exact (mvW (by omega) (by omega)).symm
  · obtain ⟨b, rfl⟩ : ∃ b : Fin 3, bt = nI b := by
      rcases hb with rfl | rfl | rfl
      · exact ⟨0, rfl⟩
      · exact ⟨1, rfl⟩
      · exact ⟨2, rfl⟩
    obtain ⟨e, b1, b2⟩ := hA z w b
    rw [mvS_an, Int32.zero_mul, Int32.add_zero]
    have k3 := mvA (ea := ea) (x := mE (nI w) (mvB (nI z) (nI b))) (by omega) (by omega) (by omega) (by omega)
    refine ⟨?_, by omega, by omega⟩
    rw [if_neg (by decide), ← e]
    exact (mvW (by omega) (by omega)).symm
theorem hch_ne {ch : Int32} (h : ¬ ch < 0) : ¬ ch = -1 := fun q => by subst q; exact h (by decide)
theorem kap {ea no : Int32} {hn : Nat} (hhn : hn < 50) (h : -(99 + 9 * (hn : Int)) ≤ ea.toInt ∧ ea.toInt ≤ 99 + 9 * (hn : Int)) (h2 : -(99 + 9 * (hn : Int)) ≤ no.toInt ∧ no.toInt ≤ 99 + 9 * (hn : Int)) : 30 < r_X11_apart (-900) (-900) ea no := by
  obtain ⟨a, b⟩ := h
  obtain ⟨a2, b2⟩ := h2
  have n9 : (-900 : Int32).toInt = -900 := by decide
  have t3 : (30 : Int32).toInt = 30 := by decide
  have z : (0 : Int32).toInt = 0 := by decide
  have e1 : (-900 - ea).toInt = -900 - ea.toInt := by
    rw [Int32.toInt_sub, n9]
    exact Int.bmod_eq_of_le (by omega) (by omega)
  have e2 : (-900 - no).toInt = -900 - no.toInt := by
    rw [Int32.toInt_sub, n9]
    exact Int.bmod_eq_of_le (by omega) (by omega)
  have f1 : (0 - (-900 - ea)).toInt = 900 + ea.toInt := by
    rw [Int32.toInt_sub, z, e1]
    exact (Int.bmod_eq_of_le (by omega) (by omega)).trans (by omega)
  have f2 : (0 - (-900 - no)).toInt = 900 + no.toInt := by
    rw [Int32.toInt_sub, z, e2]
    exact (Int.bmod_eq_of_le (by omega) (by omega)).trans (by omega)
  have g1 : ¬ 0 ≤ (-900 - ea) := fun q => by have q := Int32.le_iff_toInt_le.mp q; rw [z, e1] at q; omega
  have g2 : ¬ 0 ≤ (-900 - no) := fun q => by have q := Int32.le_iff_toInt_le.mp q; rw [z, e2] at q; omega
  unfold r_X11_apart
  rw [if_neg g1, if_neg g2]
  apply Int32.lt_iff_toInt_lt.mpr
  rw [t3]
  by_cases c : (0 - (-900 - ea)) < (0 - (-900 - no))
  · rw [if_pos c, f2]; omega
  · rw [if_neg c, f1]; omega
theorem khf {ea no : Int32} (h : 30 < r_X11_apart (-900) (-900) ea no) : r_X11_isInsideLine (-900) (-900) ea no = 0 := by
  unfold r_X11_isInsideLine; rw [if_pos h]
theorem khs {ea no : Int32} (h : 30 < r_X11_apart (-900) (-900) ea no) : ¬ r_X11_apart (-900) (-900) ea no ≤ 1 := fun q => by
  have a := Int32.lt_iff_toInt_lt.mp h
  have b := Int32.le_iff_toInt_le.mp q
  rw [show (30 : Int32).toInt = 30 from by decide] at a
  rw [show (1 : Int32).toInt = 1 from by decide] at b
  omega

theorem lq_ea1 {hn : Nat} (hhn : hn < 50) {zf1 wy bt nd nh ze ea no : Int32} (hzf1 : ¬ zf1 < 0) (hzf13 : zf1 < 13) (hw : wy = 0 ∨ wy = 1 ∨ wy = 2 ∨ wy = 3) (hbt : (bt = 3 ∧ nd = 0) ∨ ((bt = 0 ∨ bt = 1 ∨ bt = 2) ∧ nd = 1 ∧ nh = 8 - 2 * bt)) (hz : ∃ t : Fin 7, ze = nI t - 3) (hea : -(99 + 9 * (hn : Int)) ≤ ea.toInt ∧ ea.toInt ≤ 99 + 9 * (hn : Int)) (hno : -(99 + 9 * (hn : Int)) ≤ no.toInt ∧ no.toInt ≤ 99 + 9 * (hn : Int)) : (ea + ((if wy = 1 then (if bt = 3 then (zf1 / 2) else (if zf1 ≤ (8 - (2 * bt)) then 0 else (zf1 - (8 - (2 * bt))))) else (if wy = 3 then (-(if bt = 3 then (zf1 / 2) else (if zf1 ≤ (8 - (2 * bt)) then 0 else (zf1 - (8 - (2 * bt)))))) else 0)) + ((if 3 ≤ bt then (if (nI hn - nI hn / 24 * 24) < 6 then (if (nI hn - nI hn / 24 * 24) < 18 then 1 else (-1)) else (if (nI hn - nI hn / 24 * 24) < 12 then (-1) else (if (nI hn - nI hn / 24 * 24) < 18 then 1 else (-1)))) else 0) * ze))) = (r_X11_moveShips_s0_4 (nI hn) zf1 (wchar wy) ze ea no (-900) (-900) 1 nd nh) := by
  have k := (mvX (wE := r_X11_windEast) (mE := mvE) mvE_an mvE_dr hhn hzf1 hzf13 hw hbt hz hea.1 hea.2).1
  unfold r_X11_moveShips_s0_4 r_X11_moveShip_s0_4 r_X8_moveBy_s0_4
  rw [hstr0 (khs (kap hhn hea hno)), if_pos rfl]
  exact k
theorem lq_ea1B {hn : Nat} (hhn : hn < 50) {zf1 wy bt nd nh ze ea no : Int32} (hzf1 : ¬ zf1 < 0) (hzf13 : zf1 < 13) (hw : wy = 0 ∨ wy = 1 ∨ wy = 2 ∨ wy = 3) (hbt : (bt = 3 ∧ nd = 0) ∨ ((bt = 0 ∨ bt = 1 ∨ bt = 2) ∧ nd = 1 ∧ nh = 8 - 2 * bt)) (hz : ∃ t : Fin 7, ze = nI t - 3) (hea : -(99 + 9 * (hn : Int)) ≤ ea.toInt ∧ ea.toInt ≤ 99 + 9 * (hn : Int)) (hno : -(99 + 9 * (hn : Int)) ≤ no.toInt ∧ no.toInt ≤ 99 + 9 * (hn : Int)) : -(99 + 9 * ((hn + 1 : Nat) : Int)) ≤ (r_X11_moveShips_s0_4 (nI hn) zf1 (wchar wy) ze ea no (-900) (-900) 1 nd nh).toInt ∧ (r_X11_moveShips_s0_4 (nI hn) zf1 (wchar wy) ze ea no (-900) (-900) 1 nd nh).toInt ≤ 99 + 9 * ((hn + 1 : Nat) : Int) := by
  rw [← lq_ea1 hhn hzf1 hzf13 hw hbt hz hea hno]
  exact (mvX (wE := r_X11_windEast) (mE := mvE) mvE_an mvE_dr hhn hzf1 hzf13 hw hbt hz hea.1 hea.2).2

theorem lq_no1 {hn : Nat} (hhn : hn < 50) {zf1 wy bt nd nh zn ea no : Int32} (hzf1 : ¬ zf1 < 0) (hzf13 : zf1 < 13) (hw : wy = 0 ∨ wy = 1 ∨ wy = 2 ∨ wy = 3) (hbt : (bt = 3 ∧ nd = 0) ∨ ((bt = 0 ∨ bt = 1 ∨ bt = 2) ∧ nd = 1 ∧ nh = 8 - 2 * bt)) (hz : ∃ t : Fin 7, zn = nI t - 3) (hea : -(99 + 9 * (hn : Int)) ≤ ea.toInt ∧ ea.toInt ≤ 99 + 9 * (hn : Int)) (hno : -(99 + 9 * (hn : Int)) ≤ no.toInt ∧ no.toInt ≤ 99 + 9 * (hn : Int)) : (no + ((if wy = 0 then (if bt = 3 then (zf1 / 2) else (if zf1 ≤ (8 - (2 * bt)) then 0 else (zf1 - (8 - (2 * bt))))) else (if wy = 2 then (-(if bt = 3 then (zf1 / 2) else (if zf1 ≤ (8 - (2 * bt)) then 0 else (zf1 - (8 - (2 * bt)))))) else 0)) + ((if 3 ≤ bt then (if (nI hn - nI hn / 24 * 24) < 6 then (if (nI hn - nI hn / 24 * 24) < 18 then 1 else (-1)) else (if (nI hn - nI hn / 24 * 24) < 12 then (-1) else (if (nI hn - nI hn / 24 * 24) < 18 then 1 else (-1)))) else 0) * zn))) = (r_X11_moveShips_s0_5 (nI hn) zf1 (wchar wy) zn ea no (-900) (-900) 1 nd nh) := by
  have k := (mvX (wE := r_X11_windNorth) (mE := mvN) mvN_an mvN_dr hhn hzf1 hzf13 hw hbt hz hno.1 hno.2).1
  unfold r_X11_moveShips_s0_5 r_X11_moveShip_s0_5 r_X8_moveBy_s0_5
  rw [hstr0 (khs (kap hhn hea hno)), if_pos rfl]
  exact k
theorem lq_no1B {hn : Nat} (hhn : hn < 50) {zf1 wy bt nd nh zn ea no : Int32} (hzf1 : ¬ zf1 < 0) (hzf13 : zf1 < 13) (hw : wy = 0 ∨ wy = 1 ∨ wy = 2 ∨ wy = 3) (hbt : (bt = 3 ∧ nd = 0) ∨ ((bt = 0 ∨ bt = 1 ∨ bt = 2) ∧ nd = 1 ∧ nh = 8 - 2 * bt)) (hz : ∃ t : Fin 7, zn = nI t - 3) (hea : -(99 + 9 * (hn : Int)) ≤ ea.toInt ∧ ea.toInt ≤ 99 + 9 * (hn : Int)) (hno : -(99 + 9 * (hn : Int)) ≤ no.toInt ∧ no.toInt ≤ 99 + 9 * (hn : Int)) : -(99 + 9 * ((hn + 1 : Nat) : Int)) ≤ (r_X11_moveShips_s0_5 (nI hn) zf1 (wchar wy) zn ea no (-900) (-900) 1 nd nh).toInt ∧ (r_X11_moveShips_s0_5 (nI hn) zf1 (wchar wy) zn ea no (-900) (-900) 1 nd nh).toInt ≤ 99 + 9 * ((hn + 1 : Nat) : Int) := by
  rw [← lq_no1 hhn hzf1 hzf13 hw hbt hz hea hno]
  exact (mvX (wE := r_X11_windNorth) (mE := mvN) mvN_an mvN_dr hhn hzf1 hzf13 hw hbt hz hno.1 hno.2).2

theorem lq_fo1B (fo : Int32) : ¬ (r_X11_eatAndTire_s0_7 fo) < 0 := by
  unfold r_X11_eatAndTire_s0_7 r_X8_feed_s0_7
  have z : (0 : Int32).toInt = 0 := by decide
  by_cases h : 0 < fo - 1
  · rw [if_pos h]
    intro q
    have a := Int32.lt_iff_toInt_lt.mp h
    have b := Int32.lt_iff_toInt_lt.mp q
    omega
  · rw [if_neg h]; decide
theorem lq_mu1B (fo hu mu : Int32) (h : mu = 0 ∨ mu = 1) : (r_X11_eatAndTire_s0_16 fo hu mu) = 0 ∨ (r_X11_eatAndTire_s0_16 fo hu mu) = 1 := by
  unfold r_X11_eatAndTire_s0_16 r_X8_feed_s0_16
  exact kz_if h (Or.inr rfl)
theorem lq_on1B (po ch rb1 mu gp : Int32) : (r_X11_goOnAir_s0_12 po ch rb1 mu gp) = 0 ∨ (r_X11_goOnAir_s0_12 po ch rb1 mu gp) = 1 := by
  unfold r_X11_goOnAir_s0_12
  exact kz_if (Or.inl rfl) (Or.inr rfl)
theorem lq_sa1B (zf1 sa : Int32) (h : sa ≤ 8) : (r_X11_gatherSalt_s0_8 zf1 sa) ≤ 8 := by
  unfold r_X11_gatherSalt_s0_8
  by_cases h1 : zf1 < 7
  · rw [if_pos h1]; exact h
  · rw [if_neg h1]
    by_cases h2 : sa + 1 < 8
    · rw [if_pos h2]
      have := Int32.lt_iff_toInt_lt.mp h2
      exact Int32.le_iff_toInt_le.mpr (by omega)
    · rw [if_neg h2]; exact Int32.le_refl _

