theorem kall {n : Nat} {N : Int32} (hN : N = nI n) (hn : n < 2000000) {P : Int32 → Prop} (h : ∀ k : Fin n, P (nI k)) {z : Int32} (h0 : ¬ z < 0) (h1 : z < N) : P z := by
  subst hN
  have z0 : (0 : Int32).toInt = 0 := by decide
  have a := Int32.le_iff_toInt_le.mp (Int32.not_lt.mp h0)
  have b := Int32.lt_iff_toInt_lt.mp h1
  rw [z0] at a
  rw [nI_toInt (by omega)] at b
  have e : z = nI z.toInt.toNat := Int32.toInt_inj.mp (by rw [nI_toInt (by omega)]; omega)
  rw [e]
  exact h ⟨z.toInt.toNat, by omega⟩
theorem kb100 {z : Int32} (h0 : ¬ z < 0) (h1 : z < 100) : -(99 + 9 * ((0 : Nat) : Int)) ≤ z.toInt ∧ z.toInt ≤ 99 + 9 * ((0 : Nat) : Int) := by
  have z0 : (0 : Int32).toInt = 0 := by decide
  have z1 : (100 : Int32).toInt = 100 := by decide
  have a := Int32.le_iff_toInt_le.mp (Int32.not_lt.mp h0)
  have b := Int32.lt_iff_toInt_lt.mp h1
  rw [z0] at a
  rw [z1] at b
  omega
theorem ksend {zm x y : Int32} (hz : ¬ 0 < zm) (hz2 : ¬ zm < (-4000)) (x0 : ¬ x < 0) (x1 : x < 3000) (y0 : ¬ y < 0) (y1 : y < 200) : (zm - (50 + x + y)).toInt < 0 ∧ zm.toInt - 3250 ≤ (zm - (50 + x + y)).toInt := by
  have c0 : (0 : Int32).toInt = 0 := by decide
  have c1 : (-4000 : Int32).toInt = -4000 := by decide
  have c2 : (3000 : Int32).toInt = 3000 := by decide
  have c3 : (200 : Int32).toInt = 200 := by decide
  have c4 : (50 : Int32).toInt = 50 := by decide
  have a1 := Int32.le_iff_toInt_le.mp (Int32.not_lt.mp hz)
  have a2 := Int32.le_iff_toInt_le.mp (Int32.not_lt.mp hz2)
  have a3 := Int32.le_iff_toInt_le.mp (Int32.not_lt.mp x0)
  have a4 := Int32.lt_iff_toInt_lt.mp x1
  have a5 := Int32.le_iff_toInt_le.mp (Int32.not_lt.mp y0)
  have a6 := Int32.lt_iff_toInt_lt.mp y1
  rw [c0] at a1 a3 a5
  rw [c1] at a2
  rw [c2] at a4
  rw [c3] at a6
  have e1 : (50 + x).toInt = 50 + x.toInt := by
    rw [Int32.toInt_add, c4]; exact Int.bmod_eq_of_le (by omega) (by omega)
  have e2 : (50 + x + y).toInt = 50 + x.toInt + y.toInt := by
    rw [Int32.toInt_add, e1]; exact Int.bmod_eq_of_le (by omega) (by omega)
  have e3 : (zm - (50 + x + y)).toInt = zm.toInt - (50 + x.toInt + y.toInt) := by
    rw [Int32.toInt_sub, e2]; exact Int.bmod_eq_of_le (by omega) (by omega)
  rw [e3]
  omega
theorem kneg {x : Int32} (h : x.toInt < 0) : ¬ 0 ≤ x := fun q => by
  have q := Int32.le_iff_toInt_le.mp q
  rw [show (0 : Int32).toInt = 0 from by decide] at q
  omega
theorem knpos {x : Int32} (h : x.toInt < 0) : ¬ 0 < x := fun q => by
  have q := Int32.lt_iff_toInt_lt.mp q
  rw [show (0 : Int32).toInt = 0 from by decide] at q
  omega
theorem kn4000 {x : Int32} (h : -4000 ≤ x.toInt) : ¬ x < (-4000) := fun q => by
  have q := Int32.lt_iff_toInt_lt.mp q
  rw [show (-4000 : Int32).toInt = -4000 from by decide] at q
  omega
theorem kthree {z : Int32} (h : z = 0 ∨ z = 1 ∨ z = 2 ∨ z = 3) (h3 : ¬ z = 3) : z = 0 ∨ z = 1 ∨ z = 2 := by
  rcases h with h | h | h | h
  · exact Or.inl h
  · exact Or.inr (Or.inl h)
  · exact Or.inr (Or.inr h)
  · exact absurd h h3
theorem kbt {bt nd nh : Int32} (h0 : ¬ bt < 0) (h4 : bt < 4) (hd : nd = (if bt = 3 then 0 else 1)) (hh : nh = (if bt = 3 then 0 else 8 - 2 * bt)) : (bt = 3 ∧ nd = 0) ∨ ((bt = 0 ∨ bt = 1 ∨ bt = 2) ∧ nd = 1 ∧ nh = 8 - 2 * bt) := by
  by_cases h : bt = 3
  · rw [if_pos h] at hd; exact Or.inl ⟨h, hd⟩
  · rw [if_neg h] at hd hh; exact Or.inr ⟨kthree (kfour h0 h4) h, hd, hh⟩
theorem kother {ch z : Int32} (h0 : ¬ ch < 0) (h1 : ch < 10) : ¬ (if z = 0 then ch else ((ch + 1) - (ch + 1) / 10 * 10)) < 0 ∧ (if z = 0 then ch else ((ch + 1) - (ch + 1) / 10 * 10)) < 10 := by
  by_cases h : z = 0
  · rw [if_pos h]; exact ⟨h0, h1⟩
  · rw [if_neg h]; exact kall (n := 10) (N := 10) rfl (by decide) (P := fun ch => ¬ ((ch + 1) - (ch + 1) / 10 * 10) < 0 ∧ ((ch + 1) - (ch + 1) / 10 * 10) < 10) (by decide +kernel) h0 h1

theorem ktide {z : Int32} (h0 : ¬ z < 0) (h1 : z < 7) : ∃ t : Fin 7, (z - 3) = nI t - 3 := by
  obtain ⟨k, rfl⟩ := kfin (n := 7) (by decide) h0 h1
  exact ⟨k, rfl⟩
theorem kle9 {z : Int32} (b : z < 10) : z ≤ 9 := by
  have z0 : (10 : Int32).toInt = 10 := by decide
  have z4 : (9 : Int32).toInt = 9 := by decide
  have b := Int32.lt_iff_toInt_lt.mp b
  exact Int32.le_iff_toInt_le.mpr (by rw [z4]; omega)

