theorem kfrontE {ws : va_W} {x : Nat × va_E} : ∀ (i : Nat) (p : Nat × va_E), (x :: ws)[i]? = some p → (ws ++ [x])[if i = 0 then ws.length else i - 1]? = some p := by
  intro i p hi
  cases i with
  | zero =>
    rw [if_pos rfl]
    have hi : x = p := by simpa using hi
    subst hi
    simp
  | succ k =>
    rw [if_neg (by omega)]
    have hk : ws[k]? = some p := by simpa using hi
    show (ws ++ [x])[k]? = some p
    rw [List.getElem?_append_left (List.getElem?_eq_some_iff.mp hk).1]
    exact hk
theorem kfrontP {D : va_G} {ws : va_W} {x : Nat × va_E} {H : Heap} (h : va_P D vwCl (ws ++ [x]) H) : va_P D vwCl (x :: ws) H := fun k q hk => h _ q (kfrontE k q hk)
theorem kfrontD {A : Nat → Prop} {ws : va_W} {x : Nat × va_E} (h : va_D A (ws ++ [x])) : va_D A (x :: ws) := by
  refine ⟨fun i j p q hi hj he => ?_, fun k q hk => h.2 _ q (kfrontE k q hk)⟩
  have e := h.1 _ _ p q (kfrontE i p hi) (kfrontE j q hj) he
  have bi : i < (x :: ws).length := (List.getElem?_eq_some_iff.mp hi).1
  have bj : j < (x :: ws).length := (List.getElem?_eq_some_iff.mp hj).1
  rw [List.length_cons] at bi bj
  by_cases hi0 : i = 0 <;> by_cases hj0 : j = 0 <;> simp only [hi0, hj0, if_true, if_false] at e <;> omega
section KNEWF
variable {p : Program} {l : Launch} {e : Env} {R : Room} {s : State} {m : MethodId} {args : Array Value} {below : List Frame} {meth : Method} {c : Code} {H : Heap} {locs : List Loc} {cells slots : Nat} {Q : State → Prop} {g : kG} {A : Nat → Prop} {cc : ByteArray} {ws : va_W} {pc : Nat} {ls : Array Slot} {rest : List Value}
theorem kNewa0f {f' : Nat → Int32} (he : (fun _ : Nat => (0 : Int32)) = f') {n : Int32} {N : Nat} (hx : p.tables.exec = Jvm.exec) (hb : c.code = cc) (harr : (Cond.arrayClass .int).before args s = true) (G : GG g A s s.heap) (hP : va_P g.1 vwCl ws H) (hD : va_D A ws) (hS : va_S A s.heap H locs) (hA : ∀ q : Nat, s.heap.size ≤ q → A q) (hn : ¬ n < 0) (hN : n.toNatClampNeg = N) (hbytes : N * componentBytes .int ≤ 536870912) (hcells : cells + 1 ≤ R.cells) (hslots : slots + N ≤ R.slots) (hdg : decode cc pc = .ok (.newarray .int, 2))
    (kk : ∀ (q : Nat) (H1 : Heap), va_P g.1 vwCl ((q, .inl (g.2.2.1 0, N, .inl f')) :: ws) H1 → va_D A ((q, .inl (g.2.2.1 0, N, .inl f')) :: ws) → va_S A s.heap H1 locs → W p l e R s m args below meth c H1 locs (cells + 1) (slots + N) Q (F0 m (pc + 2) ls (.ref q :: rest))) : W p l e R s m args below meth c H locs cells slots Q (F0 m pc ls (.int n :: rest)) := by
  subst he
  exact kNewa0 hx hb harr G hP hD hS hA hn hN hbytes hcells hslots hdg (fun q H1 hP hD hS => kk q H1 (kfrontP hP) (kfrontD hD) hS)
theorem kNewa2f {f' : Nat → Int32} (he : (fun _ : Nat => (0 : Int32)) = f') {n : Int32} {N : Nat} (hx : p.tables.exec = Jvm.exec) (hb : c.code = cc) (harr : (Cond.arrayClass .boolean).before args s = true) (G : GG g A s s.heap) (hP : va_P g.1 vwCl ws H) (hD : va_D A ws) (hS : va_S A s.heap H locs) (hA : ∀ q : Nat, s.heap.size ≤ q → A q) (hn : ¬ n < 0) (hN : n.toNatClampNeg = N) (hbytes : N * componentBytes .boolean ≤ 536870912) (hcells : cells + 1 ≤ R.cells) (hslots : slots + N ≤ R.slots) (hdg : decode cc pc = .ok (.newarray .boolean, 2))
    (kk : ∀ (q : Nat) (H1 : Heap), va_P g.1 vwCl ((q, .inl (g.2.2.1 2, N, .inl f')) :: ws) H1 → va_D A ((q, .inl (g.2.2.1 2, N, .inl f')) :: ws) → va_S A s.heap H1 locs → W p l e R s m args below meth c H1 locs (cells + 1) (slots + N) Q (F0 m (pc + 2) ls (.ref q :: rest))) : W p l e R s m args below meth c H locs cells slots Q (F0 m pc ls (.int n :: rest)) := by
  subst he
  exact kNewa2 hx hb harr G hP hD hS hA hn hN hbytes hcells hslots hdg (fun q H1 hP hD hS => kk q H1 (kfrontP hP) (kfrontD hD) hS)
end KNEWF
theorem kdc : Op.cmpValue (FP.dcmp (FP.ddiv (FP.i2d 2) (FP.i2d 2)) FP.dconst1) .l = 0 := by decide +kernel
theorem kidx40 : ∀ h : Fin 50, ¬ (40 + nI h / 5) < 0 := by decide +kernel
theorem kidx60 : ∀ h : Fin 50, ¬ (60 + nI h / 5) < 0 := by decide +kernel
theorem kfour {z : Int32} (a : ¬ z < 0) (b : z < 4) : z = 0 ∨ z = 1 ∨ z = 2 ∨ z = 3 := by
  have z0 : (0 : Int32).toInt = 0 := by decide
  have z4 : (4 : Int32).toInt = 4 := by decide
  have a := Int32.le_iff_toInt_le.mp (Int32.not_lt.mp a)
  have b := Int32.lt_iff_toInt_lt.mp b
  rw [z0] at a
  rw [z4] at b
  rcases (show z.toInt = 0 ∨ z.toInt = 1 ∨ z.toInt = 2 ∨ z.toInt = 3 by omega) with e | e | e | e
  · exact Or.inl (Int32.toInt_inj.mp (e.trans (by decide)))
  · exact Or.inr (Or.inl (Int32.toInt_inj.mp (e.trans (by decide))))
  · exact Or.inr (Or.inr (Or.inl (Int32.toInt_inj.mp (e.trans (by decide)))))
  · exact Or.inr (Or.inr (Or.inr (Int32.toInt_inj.mp (e.trans (by decide)))))
theorem kle12 {z : Int32} (b : z < 13) : z ≤ 12 := by
  have z0 : (13 : Int32).toInt = 13 := by decide
  have z4 : (12 : Int32).toInt = 12 := by decide
  have b := Int32.lt_iff_toInt_lt.mp b
  exact Int32.le_iff_toInt_le.mpr (by rw [z4]; omega)

