theorem kcls {s : State} {c : Nat} {r0 : vw_C} {n : Nat} (h0 : vwCl[c]? = some r0) (hw : ∀ w ∈ kw, w.before #[] s = true) (hin : ∀ w ∈ u_ws r0.1 r0.2.1 r0.2.2, w ∈ kw) (hi : Cond.instantiable r0.1 n ∈ kw) : ∃ q : ClassId × (Nat → Nat), ∀ r, vwCl[c]? = some r → u_Kn s r.1 r.2.1 r.2.2 q.1 q.2 := by
  obtain ⟨cC, iS, h⟩ := u_known (C := r0.1) (T := r0.2.1) (N := r0.2.2) hw hin (hw _ hi)
  refine ⟨(cC, iS), fun r hr => ?_⟩
  cases h0.symm.trans hr
  exact h
theorem karr {s : State} {args : Array Value} {ty : FieldType} (h : (Cond.arrayClass ty).before args s = true) (hr : ∀ cA, s.vm.findClass ("[" ++ ty.toString) = some cA → va_RA s cA ty) : ∃ cA, ArrOfT s cA ty ∧ va_RA s cA ty := by
  obtain ⟨c2, kC, c3, h1, h2, h3⟩ := Cond.arrayClass_spec h
  exact ⟨c2, fun n z => ⟨(fun q hq => by cases hq), kC, h2, c3, h3⟩, hr _ h1⟩
theorem karrO {s : State} {args : Array Value} {C : String} (h : (Cond.arrayOver (.object C)).before args s = true) : ∃ cA, ArrOfT s cA (.object C) ∧ va_RA s cA (.object C) := by
  obtain ⟨comp, c, k, h1, h2, h3, h4, h5⟩ := Cond.arrayOver_spec h
  exact ⟨c, fun n z => ⟨(fun q hq => by cases hq), k, h3, comp, h4⟩, k, comp, h3, h4, h1, h5⟩
theorem kS2 {bb : Nat} {A : Nat → Prop} {U : State} {H : Heap} {k0 v0 k1 v1 : Nat → Nat} (h0 : vk_S 1 [4] [[110, 101, 115, 119]] k0 v0 A U H) (h1 : vk_S 1 [3] [[115, 109, 114]] k1 v1 A U H) : vk_S 2 [4, 3] [[110, 101, 115, 119], [115, 109, 114]] (fun i => if i = 0 then k0 0 else if i = 1 then k1 0 else bb) (fun i => if i = 0 then v0 0 else v1 0) A U H := by
  have a := h0.1 0 (by decide)
  have b := h1.1 0 (by decide)
  have hne : k0 0 ≠ k1 0 := by
    intro e
    obtain ⟨-, -, ⟨cf, k, i, f, cell, q1, q2, q3, q4, q5, q6⟩, ⟨ce, r1, r2, r3, r4, r5, -⟩⟩ := a
    obtain ⟨-, -, ⟨cf', k', i', f', cell', q1', q2', q3', q4', q5', q6'⟩, ⟨ce', r1', r2', r3', r4', r5', -⟩⟩ := b
    rw [← e] at q3'
    cases q1.symm.trans q1'
    cases q3.symm.trans q3'
    have e2 : v0 0 = v1 0 := by
      have h9 := q5.symm.trans q5'
      simpa using h9
    rw [← e2] at r1'
    cases r1.symm.trans r1'
    exact absurd (r5.symm.trans r5') (by decide)
  refine ⟨fun i hi => ?_, fun i j hi hj e => ?_⟩
  · rcases (show i = 0 ∨ i = 1 by omega) with rfl | rfl
    · exact a
    · exact b
  · rcases (show i = 0 ∨ i = 1 by omega) with rfl | rfl <;> rcases (show j = 0 ∨ j = 1 by omega) with rfl | rfl
    · rfl
    · exact absurd e hne
    · exact absurd e.symm hne
    · rfl
theorem kstr_ok {s : State} {args : Array Value} {own tx : String} {k : Nat} (h1 : (Cond.stringRef own k tx).before args s = true) (h2 : (Cond.exactly (.string own k) "java/lang/String").before args s = true) : ∃ a, vk_R own k tx a s := by
  obtain ⟨a, c, cA, kA, q1, -⟩ := Cond.exactly_spec (args := args) (first := s) (o := none) (s := s) (idx := []) (t := .string own k) (cls := "java/lang/String") h2
  exact ⟨a, h1, q1⟩

set_option maxHeartbeats 4000000 in
set_option maxRecDepth 100000 in
theorem kstart {s : State} {b L : Nat} {xs : Nat → Int32} (hL : L ≤ 260) (hX : va_X b L xs s s.heap) (hbl : b < s.heap.size) (hts : ∀ w ∈ lw_tbl, w.before #[Value.ref b] s = true) (hgv : (Jvm.Cond.and given_1 narrow_1).before #[Value.ref b] s = true) : ∃ g : kG, GG g (fun q => s.heap.size ≤ q) s s.heap ∧ g.2.2.2.1 2 = b := by
  have hs := flat_of_before _ hgv
  have hw : ∀ w ∈ kw, w.before #[] s = true := kw_args' hts
  have hA : ∀ a : Nat, a < s.heap.size → ¬ (fun q => s.heap.size ≤ q) a := fun a h => Nat.not_le.mpr h
  have hk : ∀ c : Nat, ∃ q : ClassId × (Nat → Nat), ∀ r, vwCl[c]? = some r → u_Kn s r.1 r.2.1 r.2.2 q.1 q.2 := by
    intro c
    rcases (show c = 0 ∨ c = 1 ∨ c = 2 ∨ c = 3 ∨ c = 4 ∨ c = 5 ∨ c = 6 ∨ c = 7 ∨ c = 8 ∨ c = 9 ∨ c = 10 ∨ c = 11 ∨ c = 12 ∨ c = 13 ∨ 14 ≤ c by omega) with rfl | rfl | rfl | rfl | rfl | rfl | rfl | rfl | rfl | rfl | rfl | rfl | rfl | rfl | h9
    · exact kcls (r0 := (RJ0, TJ0, 2)) rfl hw inJ0 kw_815
    · exact kcls (r0 := (RJx00060, TJx00060, 6)) rfl hw inJx00060 kw_816
    · exact kcls (r0 := (RJx4a65c, TJx4a65c, 3)) rfl hw inJx4a65c kw_352
    · exact kcls (r0 := (RX0, TX0, 5)) rfl hw inX0 kw_345
    · exact kcls (r0 := (RX1, TX1, 8)) rfl hw inX1 kw_390
    · exact kcls (r0 := (RX2, TX2, 4)) rfl hw inX2 kw_432
    · exact kcls (r0 := (RX3, TX3, 7)) rfl hw inX3 kw_372
    · exact kcls (r0 := (RX4, TX4, 11)) rfl hw inX4 kw_412
    · exact kcls (r0 := (RX5, TX5, 5)) rfl hw inX5 kw_464
    · exact kcls (r0 := (RX6, TX6, 2)) rfl hw inX6 kw_357
    · exact kcls (r0 := (RX8, TX8, 17)) rfl hw inX8 kw_421
    · exact kcls (r0 := (RX9, TX9, 4)) rfl hw inX9 kw_363
    · exact kcls (r0 := (RX10, TX10, 5)) rfl hw inX10 kw_510
    · exact kcls (r0 := (RX11, TX11, 11)) rfl hw inX11 kw_772
    · exact ⟨(0, fun _ => 0), fun r hr => absurd hr (by rw [List.getElem?_eq_none (by exact h9)]; exact fun h => by cases h)⟩
  obtain ⟨F, hF⟩ := Classical.axiomOfChoice hk
  obtain ⟨cI, aI1, aI2⟩ := karr (hw _ kw_336) (fun _ h => h)
  obtain ⟨cB, aB1, aB2⟩ := karr (hw _ kw_817) (fun _ h => h)
  obtain ⟨cZ, aZ1, aZ2⟩ := karr (hw _ kw_382) (fun _ h => h)
  have hO : (Cond.arrayOver (.object "java/lang/Object")).before #[Value.ref b] s = true := hts _ (by decide +kernel)
  obtain ⟨cO, aO1, aO2⟩ := karrO hO
  have hE0 := va_Tof (tm := .static kE "DEFAULTCAPACITY_EMPTY_ELEMENTDATA" "[Ljava/lang/Object;") (ty := .object "java/lang/Object") (N := 0) (f := fun _ => .null) (A := fun q => s.heap.size ≤ q) (by decide) (hs _ (by decide +kernel)) (va_eqt (hs _ (by decide +kernel))) (fun j hj => absurd hj (Nat.not_lt_zero j)) hA
  obtain ⟨e0, he0, hT0⟩ := hE0
  have z0 := va_Zof (A := fun q => s.heap.size ≤ q) (args := #[Value.ref b]) (hts (.laysStatic "java/util/ArrayList" "DEFAULTCAPACITY_EMPTY_ELEMENTDATA" "[Ljava/lang/Object;") (by decide +kernel)) (kw_args hw _ kw_22) he0 hA
  have z1 := va_Zof (A := fun q => s.heap.size ≤ q) (args := #[Value.ref b]) (hts (.laysStatic "java/lang/String" "COMPACT_STRINGS" "Z") (by decide +kernel)) (kw_args hw _ kw_526) (va_eqt (hs (.eq (.static "java/lang/String" "COMPACT_STRINGS" "Z") (.int 1)) (by decide +kernel))) hA
  have u0 : vx_Zq Bundle.tN "UNASSIGNED_STACK" Bundle.steD (fun q => s.heap.size ≤ q) s s.heap := vx_Zqof (args := #[Value.ref b]) (hts (.laysStatic "java/lang/Throwable" "UNASSIGNED_STACK" "[Ljava/lang/StackTraceElement;") (by decide +kernel)) (kw_args hw _ kw_818) (hs (.isRef (.static "java/lang/Throwable" "UNASSIGNED_STACK" "[Ljava/lang/StackTraceElement;")) (by decide +kernel)) hA
  have u1 : vx_Zq Bundle.tN "SUPPRESSED_SENTINEL" Bundle.listD (fun q => s.heap.size ≤ q) s s.heap := vx_Zqof (args := #[Value.ref b]) (hts (.laysStatic "java/lang/Throwable" "SUPPRESSED_SENTINEL" "Ljava/util/List;") (by decide +kernel)) (kw_args hw _ kw_818) (hs (.isRef (.static "java/lang/Throwable" "SUPPRESSED_SENTINEL" "Ljava/util/List;")) (by decide +kernel)) hA
  have u2 : vx_Zq "jdk/internal/util/Preconditions" "SIOOBE_FORMATTER" "Ljava/util/function/BiFunction;" (fun q => s.heap.size ≤ q) s s.heap := vx_Zqof (args := #[Value.ref b]) (hts (.laysStatic "jdk/internal/util/Preconditions" "SIOOBE_FORMATTER" "Ljava/util/function/BiFunction;") (by decide +kernel)) (kw_args hw _ kw_12) (hs (.isRef (.static "jdk/internal/util/Preconditions" "SIOOBE_FORMATTER" "Ljava/util/function/BiFunction;")) (by decide +kernel)) hA
  obtain ⟨ks0, vs0, s0, es0⟩ := vk_Sof (args := #[Value.ref b]) (s := s) (N := 1) (tm := fun _ => .string "GalleonWaveLaw" 183) (len := [4]) (byt := [[110, 101, 115, 119]]) (A := fun q => s.heap.size ≤ q) (fun i hi => by rw [show i = 0 by omega]; decide) (fun i _ => hs _ (by decide +kernel)) (fun i _ => hs _ (by decide +kernel)) (fun i _ => hs _ (by decide +kernel)) (fun i hi => by rw [show i = 0 by omega]; exact hs _ (by decide +kernel)) (fun i hi j hj => by
    obtain rfl : i = 0 := by omega
    have hj : j < 4 := hj
    rcases (show j = 0 ∨ j = 1 ∨ j = 2 ∨ j = 3 by omega) with rfl | rfl | rfl | rfl
    · exact hs _ (by decide +kernel)
    · exact hs _ (by decide +kernel)
    · exact hs _ (by decide +kernel)
    · exact hs _ (by decide +kernel)) (fun i j hi hj hij => absurd (show i = j by omega) hij) hA
  obtain ⟨ks1, vs1, s1, es1⟩ := vk_Sof (args := #[Value.ref b]) (s := s) (N := 1) (tm := fun _ => .string "GalleonWaveLaw" 165) (len := [3]) (byt := [[115, 109, 114]]) (A := fun q => s.heap.size ≤ q) (fun i hi => by rw [show i = 0 by omega]; decide) (fun i _ => hs _ (by decide +kernel)) (fun i _ => hs _ (by decide +kernel)) (fun i _ => hs _ (by decide +kernel)) (fun i hi => by rw [show i = 0 by omega]; exact hs _ (by decide +kernel)) (fun i hi j hj => by
    obtain rfl : i = 0 := by omega
    have hj : j < 3 := hj
    rcases (show j = 0 ∨ j = 1 ∨ j = 2 by omega) with rfl | rfl | rfl
    · exact hs _ (by decide +kernel)
    · exact hs _ (by decide +kernel)
    · exact hs _ (by decide +kernel)) (fun i j hi hj hij => absurd (show i = j by omega) hij) hA
  have hst : ∀ q ∈ kstr, ∃ a, vk_R q.1 q.2.1 q.2.2 a s := by
    intro q hq
    exact kstr_ok (hts _ ((by decide +kernel : ∀ q ∈ kstr, Cond.stringRef q.1 q.2.1 q.2.2 ∈ lw_tbl) q hq)) (hs _ ((by decide +kernel : ∀ q ∈ kstr, Cond.exactly (.string q.1 q.2.1) "java/lang/String" ∈ flatC (Jvm.Cond.and given_1 narrow_1)) q hq))
  have hnc : ∀ q ∈ knc, va_Nc q.1 q.2 s := by
    intro q hq
    exact va_Nc.of (hs _ ((by decide +kernel : ∀ q ∈ knc, Cond.not (.castable q.1 q.2) ∈ flatC (Jvm.Cond.and given_1 narrow_1)) q hq))
  have w0 : vk_R "GalleonWaveLaw" kWAYS "nesw" (ks0 0) s := ⟨(hts (.stringRef "GalleonWaveLaw" kWAYS "nesw") (by decide +kernel)), es0 0 (by decide)⟩
  have w1 : vk_R "GalleonWaveLaw" kBOTS "smr" (ks1 0) s := ⟨(hts (.stringRef "GalleonWaveLaw" kBOTS "smr") (by decide +kernel)), es1 0 (by decide)⟩
  have hscr : va_T .int b L (fun i => .int (xs i)) (fun q => s.heap.size ≤ q) s s.heap := by
    obtain ⟨scr, x1, x2, x3, x4, x5⟩ := hX
    exact ⟨scr, x1, x2, x3, Nat.le_of_eq x4.symm, (show scr.slots.size.toInt32 = Int32.ofNat L from congrArg Nat.toInt32 x4), x5, Nat.not_le.mpr hbl⟩
  let g : kG := ((fun c => (F c).1, fun c => (F c).2), e0, (fun i => [cI, cB, cZ, cB, cO].getD i 0), (fun i => if i = 0 then ks0 0 else if i = 1 then ks1 0 else b), (fun i => if i = 0 then vs0 0 else vs1 0))
  refine ⟨g, ⟨⟨fun c q hq => hF c q hq, fun k q hk => ?_⟩, hw, hst, hnc, va_AO.of hO, ⟨trivial, trivial, trivial⟩, ⟨kS2 s0 s1, z1, w0, w1⟩, z0, ⟨hT0, L, xs, hL, hscr, u2⟩, u0, u1⟩, rfl⟩
  have hm : q = (cI, .int) ∨ q = (cB, .byte) ∨ q = (cZ, .boolean) ∨ q = (cB, .byte) ∨ q = (cO, .object "java/lang/Object") := by
    have hm := List.mem_of_getElem? hk
    simp only [kty, List.mem_cons, List.not_mem_nil, or_false] at hm
    exact hm
  rcases hm with rfl | rfl | rfl | rfl | rfl
  · exact ⟨aI1, aI2⟩
  · exact ⟨aB1, aB2⟩
  · exact ⟨aZ1, aZ2⟩
  · exact ⟨aB1, aB2⟩
  · exact ⟨aO1, aO2⟩

theorem whole_start {p : Program} {e : Env} {s : State} {m : MethodId} {below : List Frame} {meth : Method} {c : Code} (l : Launch) (hflags : l.flags = flags0) {b L : Nat} {xs : Nat → Int32} (hL : L ≤ 260) (C0 : lw_At p s m meth c b L xs) : W p l e room_1 s m #[Value.ref b] below meth c s.heap [] 0 0 (lw_Z below #[Value.ref b] s) (entryFrame m ([Value.ref b] : List Value).toArray 40) := by
  obtain ⟨hx, hb, hr, hml, hown, hts, hX, hbl, hlocks, hgv⟩ := C0
  obtain ⟨g, G, hg⟩ := kstart hL hX hbl hts hgv
  have hl0 : l.stackTraces = false := by
    show (!l.flags.contains noTraceFlag) = false
    rw [hflags]
    decide +kernel
  have hl := lv_entry ([.ref b] : List Value) (n := 40) (Nat.le_of_ble_eq_true rfl)
  rw [lg_entry_eq]
  subst hg
  exact law_S0 (A := fun q => s.heap.size ≤ q) l hl0 g ⟨hx, hb, hml, hown, hlocks, hr, rfl⟩ rfl G hbl (fun k q hk => by cases hk) ⟨(fun i j p q hi hj he => by cases hi), (fun k q hk => by cases hk)⟩ va_S.rf hl

