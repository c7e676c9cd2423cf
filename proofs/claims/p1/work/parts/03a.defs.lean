/-- the four ways of the wind -/
def kway (w : Int32) : Bool := decide (w = 110) || decide (w = 101) || decide (w = 115) || decide (w = 119)
theorem kway_eq (x : Int32) : kway x = true ↔ (x = 110 ∨ x = 101 ∨ x = 115 ∨ x = 119) := by
  simp [kway, or_assoc]
theorem kway_out {x : Int32} (h : x < 0 ∨ ¬ x ≤ 255) : kway x = false := by
  cases hk : kway x with
  | false => rfl
  | true =>
    exfalso
    rcases (kway_eq x).mp hk with rfl | rfl | rfl | rfl <;> revert h <;> decide
theorem kway_no {x : Int32} (h0 : ¬ x < 0) (h1 : x ≤ 255) (a : ¬ x.toInt8.toInt32 = 110) (b : ¬ x.toInt8.toInt32 = 101) (c : ¬ x.toInt8.toInt32 = 115) (d : ¬ x.toInt8.toInt32 = 119) : kway x = false := by
  cases hk : kway x with
  | false => rfl
  | true =>
    exfalso
    rcases (kway_eq x).mp hk with rfl | rfl | rfl | rfl
    · exact a (by decide)
    · exact b (by decide)
    · exact c (by decide)
    · exact d (by decide)
theorem kway_0 {x : Int32} (h0 : ¬ x < 0) (h1 : x ≤ 255) (h : x.toInt8.toInt32 = 110) : kway x = true := (kway_eq x).mpr (Or.inl ((kb_at 110 (by decide) (by decide) x h0 h1).mp h))
theorem kway_1 {x : Int32} (h0 : ¬ x < 0) (h1 : x ≤ 255) (h : x.toInt8.toInt32 = 101) : kway x = true := (kway_eq x).mpr (Or.inr (Or.inl ((kb_at 101 (by decide) (by decide) x h0 h1).mp h)))
theorem kway_2 {x : Int32} (h0 : ¬ x < 0) (h1 : x ≤ 255) (h : x.toInt8.toInt32 = 115) : kway x = true := (kway_eq x).mpr (Or.inr (Or.inr (Or.inl ((kb_at 115 (by decide) (by decide) x h0 h1).mp h))))
theorem kway_3 {x : Int32} (h0 : ¬ x < 0) (h1 : x ≤ 255) (h : x.toInt8.toInt32 = 119) : kway x = true := (kway_eq x).mpr (Or.inr (Or.inr (Or.inr ((kb_at 119 (by decide) (by decide) x h0 h1).mp h))))
theorem klcmp (x : Int64) : lg_cmp x x = 0 := by simp [lg_cmp]
theorem inR_200 (x : Int32) : inR x 100 200 = (decide (x = 200) || inR x 100 199) := by
  have e : (x = 200) ↔ x.toInt = 200 := ⟨fun h => by rw [h]; decide, fun h => Int32.toInt_inj.mp (h.trans (by decide))⟩
  have a : (100 : Int32).toInt = 100 := by decide
  have b : (200 : Int32).toInt = 200 := by decide
  have c : (199 : Int32).toInt = 199 := by decide
  rw [Bool.eq_iff_iff]
  simp only [inR, Bool.and_eq_true, Bool.or_eq_true, decide_eq_true_eq, e, Int32.le_iff_toInt_le, a, b, c]
  omega
theorem okR_eq (x0 x1 x2 : Int32) : (inR x0 (-1) 9 && inR x1 (-1) 3 && (decide (x2 = -1) || inR x2 100 200)) = (inR x0 (-1) 9 && inR x1 (-1) 3 && (decide (x2 = -1) || decide (x2 = 200) || inR x2 100 199)) := by
  rw [inR_200, Bool.or_assoc]
abbrev mO (r : Nat → Nat) (p0 p1 p9 p10 p18 p27 p28 p30 p44 p45 : Nat) (i_lands i_ships i_towns i_people i_recs i_wf i_ww i_te i_tn i_mo i_hr i_th : Int32) : List Value := [.ref p0, .ref p1, .ref (r 2), .ref (r 3), .ref (r 4), .ref (r 5), .ref (r 6), .ref (r 7), .ref (r 8), .ref p9, .ref p10, .ref (r 11), .ref (r 12), .ref (r 13), .ref (r 14), .ref (r 15), .ref (r 16), .ref (r 17), .ref p18, .ref (r 19), .ref (r 20), .ref (r 21), .ref (r 22), .ref (r 23), .ref (r 24), .ref (r 25), .ref (r 26), .ref p27, .ref p28, .ref (r 29), .ref p30, .ref (r 31), .ref (r 32), .ref (r 33), .ref (r 34), .ref (r 35), .ref (r 36), .ref (r 37), .ref (r 38), .ref (r 39), .ref (r 40), .ref (r 41), .ref (r 42), .ref (r 43), .ref p44, .ref p45, .ref (r 46), .int i_lands, .int i_ships, .int i_towns, .int i_people, .int i_recs, .int i_wf, .int i_ww, .int i_te, .int i_tn, .int i_mo, .int i_hr, .int i_th]
