def kadd (y t a m : Int32) : Int32 := if y = t then a + m else a
theorem h3_sh (zh ea no sa po ch on eab nob sab pob chb onb tx ty : Int32) : r_X11_strongestHeard zh ea no sa po ch on eab nob sab pob chb onb tx ty = -1 ∨ r_X11_strongestHeard zh ea no sa po ch on eab nob sab pob chb onb tx ty = 0 ∨ r_X11_strongestHeard zh ea no sa po ch on eab nob sab pob chb onb tx ty = 1 := by
  have k : ∀ {c : Prop} [Decidable c] {a b : Int32}, (a = -1 ∨ a = 0 ∨ a = 1) → (b = -1 ∨ b = 0 ∨ b = 1) → ((if c then a else b) = -1 ∨ (if c then a else b) = 0 ∨ (if c then a else b) = 1) := by
    intro c _ a b ha hb
    by_cases h : c
    · rw [if_pos h]; exact ha
    · rw [if_neg h]; exact hb
  unfold r_X11_strongestHeard
  repeat' first | with_reducible refine k ?_ ?_ | with_reducible exact Or.inl rfl | with_reducible exact Or.inr (Or.inl rfl) | with_reducible exact Or.inr (Or.inr rfl)

