/-! 'throw new NoSuchElementException("..")': her constructor's reference is 13 -/
abbrev kNSE : String := "java/util/NoSuchElementException"
abbrev kRTE : String := "java/lang/RuntimeException"
abbrev kEXC : String := "java/lang/Exception"
def k13 : ByteArray := ⟨#[0x2a, 0x2b, 0xb7, 0x00, 0x0d, 0xb1]⟩
def kbad1 : Cond := .code (Bundle.initS kNSE) Bundle.six 2 none
def kbad2 : Cond := .methodLink kNSE 7 (Bundle.initS kRTE)
def kAt13 (own : String) (ic : Nat) : List Cond := ((Bundle.ownAtoms own ic kNSE [kRTE, kEXC]).filter (fun w => decide (w ≠ kbad1) && decide (w ≠ kbad2))) ++ Bundle.passSAtoms kNSE kRTE 13 k13
theorem kin13 {own : String} {ic : Nat} {w : Cond} (h : w ∈ Bundle.ownAtoms own ic kNSE [kRTE, kEXC]) (h1 : w ≠ kbad1) (h2 : w ≠ kbad2) : w ∈ kAt13 own ic :=
  List.mem_append_left _ (List.mem_filter.mpr ⟨h, by rw [decide_eq_true h1, decide_eq_true h2]; rfl⟩)
theorem kin13p {own : String} {ic : Nat} {w : Cond} (h : w ∈ Bundle.passSAtoms kNSE kRTE 13 k13) : w ∈ kAt13 own ic := List.mem_append_right _ h
theorem k13_thr : ∀ w ∈ Bundle.throwableAtoms, w ≠ kbad1 ∧ w ≠ kbad2 := by decide +kernel
theorem k13_thrS : ∀ w ∈ Bundle.throwableSAtoms, w ≠ kbad1 ∧ w ≠ kbad2 := by decide +kernel
theorem k13_ch : ∀ w ∈ Bundle.chainSAtoms kRTE [kEXC], w ≠ kbad1 ∧ w ≠ kbad2 := by decide +kernel
theorem kctor13 {p : Program} {l : Launch} {e : Env} {R : Room} {s : State} {m₀ : MethodId} {args : Array Value} {below : List Frame} {meth : Method} {c : Code} {W : State} {locs : List Loc} {cells slots : Nat} (X : Stand p l e R s m₀ args below meth c W locs cells slots) (hexec : p.tables.exec = Jvm.exec) (htr : e.platform.stackTraces = false) {own : String} {ic : Nat}
    (hown : s.vm.findClass own = some m₀.cls) (h : ∀ a ∈ kAt13 own ic, a.before args s = true) (hlocs : ∀ x ∈ locs, ∀ cell, s.heap[x.base]? = some cell → cell.vm.isStatics = false)
    {a : Addr} {cX : ClassId} {kX : Class} (hfoundX : s.vm.findClass kNSE = some cX) (hkX : s.vm.classes[cX]? = some kX) (hcell : W.heap[a]? = some (freshCell cX kX)) (hnew : s.heap.size ≤ a) {msg : Value} (hmsg : msg.isRef = true)
    {g : JFrame} (hg : g.method = m₀) (hsize : g.locals.size = c.maxLocals) (hlocked : g.locked = none) (hentered : g.entered = []) {rest : List Value} (hstack : g.stack = msg :: .ref a :: .ref a :: rest)
    (hd6 : decode c.code g.pc = .ok (.invokespecial ic, 3)) (hd9 : decode c.code (g.pc + 3) = .ok (.athrow, 1)) (hout : ∀ x ∈ c.exceptionTable.toList, covers x (g.pc + 3) = false)
    (hRframes : 5 < R.frames) (hRlocals : 2 * g.monitorRoom + ((Value.ref a :: rest).map fun v => v.category).sum + 81 ≤ R.locals) (hlocks : meth.locks = false) :
    ∃ U : State, Steps p.tables e below (W.setTop g) U ∧ U.status = .running ∧ Ended U below (.threw a) ∧ s.WarmedH U.vm ∧ s.sameButNew ({ U with vm := s.vm } : State) locs cells slots ∧
      ∃ ce, U.heap[a]? = some ce ∧ s.vm.findClass kNSE = some ce.cls ∧ ce.vm = .none := by
  have howns : e.platform.frameOwnsMonitors = true := by rw [X.admits.platform]
  have hfin : e.platform.finalization = false := by rw [X.admits.platform]
  have hpl : e.platform.magicAccessors = ({} : Platform).magicAccessors := by rw [X.admits.platform]
  have hb : ∀ x : Cond, x ∈ Bundle.ownAtoms own ic kNSE [kRTE, kEXC] → x ≠ kbad1 → x ≠ kbad2 → x.holds args s none s [] = true := fun x hx h1 h2 => h x (kin13 hx h1 h2)
  obtain ⟨T, Z0, L, -, Y⟩ := ThrowableC.of_atoms (args := args) howns hfin hpl (fun x hx => h x (kin13 (by simp [Bundle.ownAtoms, hx]) (k13_thr x hx).1 (k13_thr x hx).2))
  obtain ⟨Z, M, LZ, LM, hnZ⟩ := Init0T.ofS_atoms (args := args) hpl L Y (fun x hx => h x (kin13 (by simp [Bundle.ownAtoms, hx]) (k13_thrS x hx).1 (k13_thrS x hx).2))
  obtain ⟨P2, Ps, hlen, L2, hL, hP2m, hlink2, hlink⟩ := Bundle.chainS (args := args) hpl hnZ [kEXC] kRTE (by decide +kernel) (by decide +kernel) (fun x hx => h x (kin13 (by
    have q : Bundle.ownAtoms own ic kNSE [kRTE, kEXC] = _ := rfl
    simp only [Bundle.ownAtoms, Bundle.chainSAtoms, List.mem_append] at hx ⊢
    exact Or.inl (Or.inr (Or.inr hx))) (k13_ch x hx).1 (k13_ch x hx).2))
  obtain ⟨P1, L1, hP1m, hP1s⟩ := PassC.ofS_atoms (args := args) (s := s) hpl (X := kNSE) (Y := kRTE) (index := 13) (bytes := k13) (by decide +kernel) (by decide) (by decide +kernel) (by decide +kernel) (by decide +kernel) (by decide +kernel) (fun x hx => h x (kin13p hx))
  have hlink1 : P1.sup = P2.m := Option.some.inj (hP1s.symm.trans hP2m)
  have hfound : s.vm.findClass kNSE = some P1.m.cls := findClass_of_methodNamed hP1m
  cases Option.some.inj (hfoundX.symm.trans hfound)
  obtain ⟨c1, kX', hc1, hk, hord, -, -, hn6⟩ := Cond.instantiable_spec (hb (.instantiable kNSE 6) (by simp [Bundle.ownAtoms]) (by decide +kernel) (by decide +kernel))
  cases Option.some.inj (hc1.symm.trans hfound)
  cases Option.some.inj (hkX.symm.trans hk)
  have hsel0 : selectMethod e.platform s.vm P1.m.cls T.fill0 = .method T.fill0 := by
    obtain ⟨c2, r2, m2, q1, q2, q3, q4, -⟩ := Cond.selects_spec (hb (.selects kNSE Bundle.tFill0 Bundle.tFill0) (by simp [Bundle.ownAtoms]) (by decide +kernel) (by decide +kernel))
    cases Option.some.inj (q1.symm.trans hfound)
    cases Option.some.inj (q2.symm.trans (State.methodFound?_of_named Y.fill0 (by decide)))
    cases Option.some.inj (q3.symm.trans Y.fill0)
    rw [Launch.admits_selectMethod X.admits]; exact q4
  have hselF : selectMethod e.platform s.vm P1.m.cls T.fill = .method T.fill := by
    obtain ⟨c2, r2, m2, q1, q2, q3, q4, -⟩ := Cond.selects_spec (hb (.selects kNSE Bundle.tFill Bundle.tFill) (by simp [Bundle.ownAtoms]) (by decide +kernel) (by decide +kernel))
    cases Option.some.inj (q1.symm.trans hfound)
    cases Option.some.inj (q2.symm.trans (State.methodFound?_of_named Y.fill (by decide)))
    cases Option.some.inj (q3.symm.trans Y.fill)
    rw [Launch.admits_selectMethod X.admits]; exact q4
  obtain ⟨cellS0, hcS0, hiss⟩ := Y.statics
  obtain ⟨u0, hu0⟩ := Cond.staticRefV Y.unassigned L.unassignedStatic L.statics hcS0 hiss (hb (.isRef (.static Bundle.tN "UNASSIGNED_STACK" Bundle.steD)) (by simp [Bundle.ownAtoms]) (by decide +kernel) (by decide +kernel))
  obtain ⟨sen, hsen⟩ := Cond.staticRefV Y.sentinel L.sentinelStatic L.statics hcS0 hiss (hb (.isRef (.static Bundle.tN "SUPPRESSED_SENTINEL" Bundle.listD)) (by simp [Bundle.ownAtoms]) (by decide +kernel) (by decide +kernel))
  obtain ⟨ci198, i198, fB, hk198, hg198, ha198, hsB, -, hnB, htB, hffB⟩ := Cond.ownField (t := .object "java/lang/Object") Y.found L.cls (by decide +kernel) (hb (.fieldLink Bundle.tN 198 Bundle.tN "backtrace" "Ljava/lang/Object;") (by simp [Bundle.ownAtoms]) (by decide +kernel) (by decide +kernel)) (hb (.lays Bundle.tN Bundle.tN "backtrace" "Ljava/lang/Object;") (by simp [Bundle.ownAtoms]) (by decide +kernel) (by decide +kernel)) e.platform hpl
  obtain ⟨cellS, hcS', heS, -, hkeep⟩ := X.same.2.2.2.2.2 T.aS cellS0 hcS0
  have hcellS : W.heap[T.aS]? = some cellS := hcS'
  have hout' : ∀ i, (⟨T.aS, i⟩ : Loc) ∉ locs := fun i hmem => by
    have q := hlocs _ hmem cellS0 hcS0
    rw [hiss] at q; cases q
  have hknownS : cellS.vm ≠ .unknown := by
    rw [heS]; intro hu
    rw [show cellS0.vm = .unknown from hu] at hiss
    cases hiss
  have hneS : T.aS ≠ a := Nat.ne_of_lt (Nat.lt_of_lt_of_le (Array.getElem?_eq_some_iff.mp hcS0).1 hnew)
  obtain ⟨iM, hffM⟩ := Y.msg
  obtain ⟨tyC, dC, hdC, hdnC⟩ := Cond.laysAt hfound hk Y.cause (hb (.lays kNSE Bundle.tN "cause" "Ljava/lang/Throwable;") (by simp [Bundle.ownAtoms]) (by decide +kernel) (by decide +kernel))
  obtain ⟨tyS, dS, hdS, hdnS⟩ := Cond.laysAt hfound hk Y.stack (hb (.lays kNSE Bundle.tN "stackTrace" Bundle.steD) (by simp [Bundle.ownAtoms]) (by decide +kernel) (by decide +kernel))
  obtain ⟨tyP, dP, hdP, hdnP⟩ := Cond.laysAt hfound hk Y.supp (hb (.lays kNSE Bundle.tN "suppressedExceptions" Bundle.listD) (by simp [Bundle.ownAtoms]) (by decide +kernel) (by decide +kernel))
  obtain ⟨tyM, dM, hdM, hdnM⟩ := Cond.laysAt hfound hk hffM (hb (.lays kNSE Bundle.tN "detailMessage" "Ljava/lang/String;") (by simp [Bundle.ownAtoms]) (by decide +kernel) (by decide +kernel))
  obtain ⟨tyB, dB, hdB, hdnB⟩ := Cond.laysAt hfound hk hffB (hb (.lays kNSE Bundle.tN "backtrace" "Ljava/lang/Object;") (by simp [Bundle.ownAtoms]) (by decide +kernel) (by decide +kernel))
  have bC := Cond.laysApart hdB hdC hdnB hdnC (by rw [hnB, Y.causeName]; decide)
  have bS := Cond.laysApart hdB hdS hdnB hdnS (by rw [hnB, Y.stackName]; decide)
  have bP := Cond.laysApart hdB hdP hdnB hdnP (by rw [hnB, Y.suppName]; decide)
  have hskip : SkipFacts T e.platform s (fun u => u) u0 ((preparedCellV T.toThrowableT (freshCell P1.m.cls kX) a u0 sen).withEntry W.cur) :=
    ⟨{ ci198 := ci198, i198 := i198, fBack := fB }, ⟨hk198, hg198, ha198, hsB⟩, by
      have q := fresh_default (c := P1.m.cls) tyB
      rw [htB] at q
      simpa [preparedCellV, Cell.setSlot, Cell.withEntry, Array.getElem?_setIfInBounds, bC, bS, bP, bC.symm, bS.symm, bP.symm, defaultValue] using q, fun _ _ => rfl⟩
  obtain ⟨tm, methC, cdC, kC, vm₁, hnC, -, -, -, -, -, -, -, hW₁, st1⟩ := Steps.initColdS (tb := p.tables) (e := e) (below := below) (s := s) (U := W) X.here hexec X.warmed hpl hown (t := Bundle.initS kNSE) rfl rfl (by decide)
    (hb (.methodLink own ic (Bundle.initS kNSE)) (by simp [Bundle.ownAtoms]) (fun q => by cases q) (fun q => by injection q with q1 q2 q3; exact absurd q3 (by decide +kernel))) (h (.instanceMethod (Bundle.initS kNSE)) (kin13p (by simp [Bundle.passSAtoms]))) (bytes := k13) (maxL := 2) (h (.code (Bundle.initS kNSE) k13 2 none) (kin13p (by simp [Bundle.passSAtoms])))
    (f := g) hg (a := a) (msg := msg) (rest := .ref a :: rest) hstack hd6
  cases Option.some.inj (hnC.symm.trans hP1m)
  have X₁ := X.noted hW₁
  have hlen2 : Ps.length = 1 := hlen
  obtain ⟨vm₂, X₂, st2⟩ := X₁.ctorMessageOffV hexec (g := { g with stack := .ref a :: rest }) hg hsize T L Z LZ M LM (P1 :: P2 :: Ps)
    (fun P hP => by
      rcases List.mem_cons.mp hP with rfl | hP
      · exact L1
      · rcases List.mem_cons.mp hP with rfl | hP
        · exact L2
        · exact hL P hP) ⟨hlink1, hlink2, hlink⟩ (u0 := u0) (sen := sen) (self := a) hmsg (cell := freshCell P1.m.cls kX) (cellS := cellS)
    hcell (fun _ => by simp) (by simp) rfl rfl hsel0 hselF hcellS hneS hknownS (by rw [hkeep _ (hout' _)]; exact hu0) (by rw [hkeep _ (hout' _)]; exact hsen)
    (Takes.of_laid hk hord tyC (by rw [Y.causeType]; rfl)) (Takes.of_laid hk hord tyS (by rw [Y.stackType]; exact fits_refV_array _ u0)) (Takes.of_laid hk hord tyP (by rw [Y.suppType]; exact fits_refV_object _ sen))
    (Takes.of_laid hk hord tyM (by rw [Y.msgType]; exact fits_refV_object _ ⟨msg, hmsg⟩)) Y.objLocals hskip htr [] hd6
    (by simp only [List.length_cons, hlen2]; omega) (by simp only [List.length_cons, hlen2]; omega)
  obtain ⟨hwalk, hrun, hended, hWU, hsame⟩ := X₂.athrowLeaves hexec (g := { g with stack := .ref a :: rest, pc := g.pc + 3 }) hg hlocked hentered hout (a := a) (rest := rest) rfl hd9
  have hlt : a < ((W.setVm vm₁).setVm vm₂).heap.size := (Array.getElem?_eq_some_iff.mp hcell).1
  have hU := heapAt_setCell_self (s := (W.setVm vm₁).setVm vm₂) (plainBareV T.toThrowableT (freshCell P1.m.cls kX) a u0 sen msg) hlt
  refine ⟨_, st1 _ (fun acts => ?_), hrun, hended, hWU, hsame.weaken (fun y hy hlt' => ?_) (Nat.le_refl _) (Nat.le_refl _), _, hU, hfound, rfl⟩
  · rw [doInvoke_state]
    exact st2 _ hwalk
  · rcases List.mem_append.mp hy with h1 | h1
    · exact h1
    · exfalso
      have q : y.base = a := by
        simp only [List.mem_cons, List.not_mem_nil, or_false] at h1
        rcases h1 with rfl | rfl | rfl | rfl | rfl <;> rfl
      rw [q] at hlt'
      exact Nat.not_lt.mpr hnew hlt'
theorem kthrowSW13 {p : Program} {l : Launch} {e : Env} {R : Room} {s : State} {m : MethodId} {args : Array Value} {below : List Frame} {meth : Method} {c : Code} {H : Heap} {locs : List Loc} {cells slots : Nat} {ls : Array Slot} {rest : List Value} {Qc : Array Value → State → Outcome → State → Prop} {XC : String → State → State → Prop} {free : Addr → Prop} {cc : ByteArray} {pc : Nat} (hexec : p.tables.exec = Jvm.exec) (hb : c.code = cc) (hl : l.stackTraces = false) {own text : String} {ik is ic mc ms sa : Nat} {A : Nat → Prop}
    (hown : s.vm.findClass own = some m.cls)
    (hk : (Cond.classLink own ik kNSE).before args s = true) (hini : (Cond.initialized kNSE).before args s = true) (hstr : vk_R own is text sa s) (hat : ∀ w ∈ (kAt13 own ic).filter vx_no, w.before args s = true)
    (hgood : ∀ w ∈ Cond.classLink own ik kNSE :: Cond.initialized kNSE :: (kAt13 own ic).filter vx_no, vx_ot w = true)
    (hU : vx_Zq Bundle.tN "UNASSIGNED_STACK" Bundle.steD A s s.heap) (hN : vx_Zq Bundle.tN "SUPPRESSED_SENTINEL" Bundle.listD A s s.heap) (hS : va_S A s.heap H locs) (hsize : ls.size = c.maxLocals)
    (d0 : decode cc pc = .ok (.new ik, 3)) (d3 : decode cc (pc + 3) = .ok (.dup, 1)) (d4 : decode cc (pc + 4) = .ok (.ldc_w is, 3)) (d7 : decode cc (pc + 7) = .ok (.invokespecial ic, 3)) (d10 : decode cc (pc + 10) = .ok (.athrow, 1))
    (hout : ∀ x ∈ c.exceptionTable.toList, covers x (pc + 10) = false)
    (hRframes : 5 < R.frames) (hRlocals : (rest.map fun v => v.category).sum + 82 ≤ R.locals) (hRcells : cells + 1 ≤ R.cells) (hRslots : slots + 6 ≤ R.slots) (hlocks : meth.locks = false)
    (hx : ∀ t : State, s.vm.Alike t.vm → H.size ≤ t.heap.size → (∀ q : Nat, q < H.size → t.heap[q]? = H[q]?) → XC kNSE s t)
    (hf : ∀ z ∈ locs, free z.base) (hc : cells + 1 ≤ mc) (hs : slots + 6 ≤ ms) :
    W p l e R s m args below meth c H locs cells slots (vx_MQ below Qc XC args s mc ms free) (F0 m pc ls rest) := by
  intro T hT X
  have htr : e.platform.stackTraces = false := (show e.platform.stackTraces = l.stackTraces by rw [X.admits.platform]).trans hl
  have Y := vx_rebase X (R' := { frames := R.frames, locals := R.locals, cells := 1, slots := 6 }) (Nat.le_refl _) (Nat.le_refl _) hRcells hRslots
  obtain ⟨s', hA⟩ : ∃ z, z = (T.setVm s.vm).setFrames (.invoking m args :: below) := ⟨_, rfl⟩
  rw [← hA] at Y
  have hvm : s'.vm = s.vm := by rw [hA]; rfl
  have hhp : s'.heap = H := by rw [hA]; exact hT
  have hW0 : s.WarmedH s'.vm := by rw [hvm]; exact State.WarmedH.refl s
  have hat' : ∀ w ∈ (kAt13 own ic).filter vx_no, w.before args s' = true := fun w hw => vx_ot_at hW0 hvm.symm (hgood w (List.mem_cons_of_mem _ (List.mem_cons_of_mem _ hw))) (hat w hw)
  have hk' : (Cond.classLink own ik kNSE).before args s' = true := vx_ot_at hW0 hvm.symm (hgood _ List.mem_cons_self) hk
  have hini' : (Cond.initialized kNSE).before args s' = true := vx_ot_at hW0 hvm.symm (hgood _ (List.mem_cons_of_mem _ List.mem_cons_self)) hini
  have hU' : vx_Zq Bundle.tN "UNASSIGNED_STACK" Bundle.steD A s' s'.heap := by rw [hhp]; exact vx_Zq.moved hW0.alike (hU.kept hS.2.1)
  have hN' : vx_Zq Bundle.tN "SUPPRESSED_SENTINEL" Bundle.listD A s' s'.heap := by rw [hhp]; exact vx_Zq.moved hW0.alike (hN.kept hS.2.1)
  have h : ∀ w ∈ kAt13 own ic, w.before args s' = true := vx_own hat' (vx_isRefq hU'.1) (vx_isRefq hN'.1) hU'.2.word hN'.2.word
  have hown' : s'.vm.findClass own = some m.cls := by rw [hvm]; exact hown
  have hins : (Cond.instantiable kNSE 6).before args s' = true := h _ (kin13 (by simp [Bundle.ownAtoms]) (by decide +kernel) (by decide +kernel))
  obtain ⟨vm₁, cX, kX, hfX, hkX, -, -, X₁, st1⟩ := Y.newCold hexec (own := own) (C := kNSE) (index := ik) (n := 6) hown' hk' hins hini'
    (g := F0 m pc ls rest) rfl (by rw [hb]; exact d0) (Nat.le_refl _) (Nat.le_refl _)
  generalize hT1 : (T.setVm vm₁).pushCell { cls := cX, slots := kX.instanceTypes.map defaultValue, vm := .none } = T1 at X₁ st1
  have hcat : (Value.ref T.heap.size).category = 1 := rfl
  have hcellA : T1.heap[T.heap.size]? = some (freshCell cX kX) := by rw [← hT1]; exact State.heap_pushCell_size _ _
  have d3' : decode c.code (pc + 3) = .ok (.dup, 1) := by rw [hb]; exact d3
  have d4' : decode c.code (pc + 4) = .ok (.ldc_w is, 3) := by rw [hb]; exact d4
  have hstr' : vk_R own is text sa s' := vk_R.warm hW0 hstr
  obtain ⟨U, hsteps, hrun, hend, hW, hsame, ce, hce, hO, hvO⟩ := kctor13 X₁ hexec htr (own := own) (ic := ic) hown' h (fun x hx => nomatch hx) hfX hkX hcellA (by rw [hhp, hT]; exact Nat.le_refl _) (msg := .ref sa) rfl
    (g := { method := m, pc := pc + 7, locals := ls, stack := .ref sa :: .ref T.heap.size :: .ref T.heap.size :: rest, locked := none }) rfl hsize rfl rfl (rest := rest) rfl
    (by rw [hb]; exact d7) (by rw [hb]; exact d10) hout hRframes (by simp only [List.map_cons, List.sum_cons, hcat]; omega) hlocks
  obtain ⟨f1, f2⟩ := vx_frame hsame
  rw [hhp] at f1 f2
  have hWs : s.WarmedH U.vm := State.WarmedH.trans hW0 hW
  have hcl : s.vm.findClass kNSE = some ce.cls := by
    have h9 := hO
    rw [hvm] at h9
    exact h9
  have hall : s.sameButNew ({ U with vm := s.vm } : State) locs mc ms := by
    subst hA
    obtain ⟨e1, e2⟩ := hsame
    rw [State.setFrames_setFrames] at e1
    have h2 : (T.setVm s.vm).sameButNew ({ U with vm := s.vm } : State) [] (0 + 1) (0 + 6) := ⟨e1, e2⟩
    have h3 := X.same.trans h2
    rw [List.append_nil] at h3
    exact h3.mono hc hs
  refine ⟨U, ?_, .threw T.heap.size, hrun, hend, Or.inr ⟨T.heap.size, rfl, kNSE, ce, locs, hx U hWs.alike f1 (fun q hq => f2 q hq (fun z hz => nomatch hz)), hce, hvO, hcl, hWs, hall, hf⟩⟩
  refine st1 _ ?_
  show Steps p.tables e below (T1.setTop { method := m, pc := pc + 3, locals := ls, stack := .ref T.heap.size :: rest, locked := none }) _
  jvm_step X₁.here [X₁.here.top, hexec, d3', Value.category]
  exact X₁.ldcStringW hexec (own := own) (text := text) (index := is) (a := sa) hown' hstr'.1 hstr'.2
    (g := { method := m, pc := pc + 4, locals := ls, stack := .ref T.heap.size :: .ref T.heap.size :: rest, locked := none }) rfl d4' _ hsteps
theorem kthrowNew13 {p : Program} {l : Launch} {e : Env} {R : Room} {s : State} {m : MethodId} {args : Array Value} {below : List Frame} {meth : Method} {c : Code} {H : Heap} {locs : List Loc} {cells slots : Nat} {g : kG} {A : Nat → Prop} {own nm : String} {cc : ByteArray} {nL : Nat} {ret0 : Option FieldType} {ws : va_W} {pc : Nat} {ls : Array Slot} {rest : List Value} {Φ : Option Value → va_W → Prop} {X : String → va_W → Prop} {mc ms : Nat} {lv : List (Nat × Value)} {text : String} {ik is ic : Nat} (hl0 : l.stackTraces = false) (K : KB p s m meth c own nm cc nL ret0) (ht : ∀ x ∈ c.exceptionTable.toList, False) (G : GG g A s s.heap) (hP : va_P g.1 vwCl ws H) (hD : va_D A ws) (hS : va_S A s.heap H locs) (hl : lv_has ls nL lv)
    (hk : Cond.classLink own ik kNSE ∈ kw) (hini : Cond.initialized kNSE ∈ kw) (hstr : ∃ a, vk_R own is text a s)
    (hat : ∀ w ∈ (kAt13 own ic).filter vx_no, w ∈ kw) (hgood : ∀ w ∈ Cond.classLink own ik kNSE :: Cond.initialized kNSE :: (kAt13 own ic).filter vx_no, vx_ot w = true)
    (d0 : decode cc pc = .ok (.new ik, 3)) (d3 : decode cc (pc + 3) = .ok (.dup, 1)) (d4 : decode cc (pc + 4) = .ok (.ldc_w is, 3)) (d7 : decode cc (pc + 7) = .ok (.invokespecial ic, 3)) (d10 : decode cc (pc + 10) = .ok (.athrow, 1))
    (hRframes : 5 < R.frames) (hRlocals : (rest.map fun v => v.category).sum + 82 ≤ R.locals) (hRcells : cells + 1 ≤ R.cells) (hRslots : slots + 6 ≤ R.slots)
    (isW : List Nat) (w1 : va_W) (hw : isW.map (fun i => ws[i]?) = w1.map some) (hn : va_nd isW = true) (hX : X kNSE w1) (hc : cells + 1 ≤ mc) (hs : slots + 6 ≤ ms) :
    W p l e R s m args below meth c H locs cells slots (vx_MQ below (kQ g Φ A) (kX g X A) args s mc ms A) (F0 m pc ls rest) := by
  obtain ⟨hx, hb, hml, hown, hlocks, -, -⟩ := K
  obtain ⟨sa, hsa⟩ := hstr
  refine kthrowSW13 (A := A) hx hb hl0 hown (G.w hk) (G.w hini) hsa (fun w hw9 => G.w (hat w hw9)) hgood G.U G.S hS (hl.1.trans hml.symm) d0 d3 d4 d7 d10 (fun x hx9 => (ht x hx9).elim) hRframes hRlocals hRcells hRslots hlocks (fun t hal hz hk9 => ?_) hS.2.2 hc hs
  have hP2 : va_P g.1 vwCl w1 t.heap := (ksubP hP isW hw).kept (fun k x hx9 => hk9 x.1 ((ksubP hP isW hw k x hx9).lt))
  exact ⟨⟨w1, hX, hP2, hD.sub isW hn hw⟩, Nat.le_trans hS.1 hz, fun q h1 h2 => (hk9 q (Nat.lt_of_lt_of_le h1 hS.1)).trans (hS.2.1 q h1 h2)⟩
theorem at13 : ∀ w ∈ (kAt13 RX11 289).filter vx_no, w ∈ kw := fun w h => kw_in ((by decide +kernel : ∀ w ∈ (kAt13 RX11 289).filter vx_no, w ∈ lw_tbl) w h) ((by decide +kernel : ∀ w ∈ (kAt13 RX11 289).filter vx_no, kok w = true) w h)
theorem at13g : ∀ w ∈ Cond.classLink RX11 285 kNSE :: Cond.initialized kNSE :: (kAt13 RX11 289).filter vx_no, vx_ot w = true := by decide +kernel

def CW (g : kG) (h0 : Nat) (a1 : Nat) (a2 : Nat) (a3 : Nat) (a4 : Nat) (a5 : Nat) (hn : Nat) (zf : Int32) (zw : Int32) (ze : Int32) (zn : Int32) (zm : Int32) (q3 : Nat) (s0 : Nat) (s0b : Nat) (sA : Nat) (sL : Nat) (sP : Nat) (sS : Nat) (ea : Int32) (no : Int32) (fu : Int32) (fo : Int32) (sa : Int32) (po : Int32) (ch : Int32) (rb : Int32) (on : Int32) (li : Int32) (sp : Int32) (hu : Int32) (mu : Int32) (g0 : Nat) (gp : Int32) (gl : Int32) (gr : Int32) (nx : Int32) (ny : Int32) (nd : Int32) (nh : Int32) (nt : Int32) (bl : Int32) (bs : Int32) (be : Int32) (gq : Nat) (hq : Nat) (hf : Nat → Int32) (sAb : Nat) (sLb : Nat) (sPb : Nat) (sSb : Nat) (eab : Int32) (nob : Int32) (fub : Int32) (fob : Int32) (sab : Int32) (pob : Int32) (chb : Int32) (rbb : Int32) (onb : Int32) (lib : Int32) (spb : Int32) (hub : Int32) (mub : Int32) (g0b : Nat) (gpb : Int32) (glb : Int32) (grb : Int32) (nxb : Int32) (nyb : Int32) (ndb : Int32) (nhb : Int32) (ntb : Int32) (blb : Int32) (bsb : Int32) (beb : Int32) (gqb : Nat) (hqb : Nat) (hfb : Nat → Int32) (q2 : Nat) (w0 : Nat) (w0b : Nat) (w0c : Nat) (tx : Int32) (ty : Int32) (tm : Int32) (th : Int32) (txb : Int32) (tyb : Int32) (tmb : Int32) (thb : Int32) (txc : Int32) (tyc : Int32) (tmc : Int32) (thc : Int32) (q1 : Nat) (l0 : Nat) (d1 : Nat) (d2 : Nat) (d3 : Nat) (q4 : Nat) (e0 : Nat) (e0b : Nat) (eh : Int32) (ehb : Int32) (k0 : Nat) (r0 : Nat) (r1 : Nat) (r2 : Nat) (r3 : Nat) (r4 : Nat) (r5 : Nat) (b6 : Nat) (b7 : Nat) (b8 : Nat) (b9 : Nat) (b10 : Nat) (kn : Nat) (f6 : Nat → Int32) (f7 : Nat → Int32) (f8 : Nat → Int32) (f9 : Nat → Int32) (f10 : Nat → Int32) : va_W := [(h0, .inr (13, [.ref a1, .ref a2, .ref a3, .ref a4, .ref a5, .int (nI hn), .int zf, .int zw, .int ze, .int zn, .int zm])), (a3, .inr (2, [.int 2, .ref q3, .int 2])), (q3, .inl ((g.2.2.1 4), 10, .inr (.inr (.inr (.inr (va_up (va_up (fun _ => none) 0 (some s0)) 1 (some s0b))))))), (s0, .inr (10, [.ref sA, .ref sL, .ref sP, .ref sS, .int ea, .int no, .int fu, .int fo, .int sa, .int po, .int ch, .int rb, .int on, .int li, .int sp, .int hu, .int mu])), (g0, .inr (5, [.int gp, .int gl, .int 1, .int gr])), (sA, .inr (3, [.int nx, .int ny, .int nd, .int nh, .int nt])), (sS, .inr (11, [.int bl, .int 0, .int bs, .int be])), (sL, .inr (2, [.int 1, .ref gq, .int 1])), (gq, .inl ((g.2.2.1 4), 10, .inr (.inr (.inr (.inr (va_up (fun _ => none) 0 (some g0))))))), (sP, .inr (9, [.ref hq, .int (-1)])), (hq, .inl ((g.2.2.1 0), 24, .inl hf)), (s0b, .inr (10, [.ref sAb, .ref sLb, .ref sPb, .ref sSb, .int eab, .int nob, .int fub, .int fob, .int sab, .int pob, .int chb, .int rbb, .int onb, .int lib, .int spb, .int hub, .int mub])), (g0b, .inr (5, [.int gpb, .int glb, .int 1, .int grb])), (sAb, .inr (3, [.int nxb, .int nyb, .int ndb, .int nhb, .int ntb])), (sSb, .inr (11, [.int blb, .int 0, .int bsb, .int beb])), (sLb, .inr (2, [.int 1, .ref gqb, .int 1])), (gqb, .inl ((g.2.2.1 4), 10, .inr (.inr (.inr (.inr (va_up (fun _ => none) 0 (some g0b))))))), (sPb, .inr (9, [.ref hqb, .int (-1)])), (hqb, .inl ((g.2.2.1 0), 24, .inl hfb)), (a2, .inr (2, [.int 3, .ref q2, .int 3])), (q2, .inl ((g.2.2.1 4), 10, .inr (.inr (.inr (.inr (va_up (va_up (va_up (fun _ => none) 0 (some w0)) 1 (some w0b)) 2 (some w0c))))))), (w0, .inr (12, [.int 0, .int tx, .int ty, .int tm, .int th])), (w0b, .inr (12, [.int 0, .int txb, .int tyb, .int tmb, .int thb])), (w0c, .inr (12, [.int 0, .int txc, .int tyc, .int tmc, .int thc])), (a1, .inr (2, [.int 1, .ref q1, .int 1])), (q1, .inl ((g.2.2.1 4), 10, .inr (.inr (.inr (.inr (va_up (fun _ => none) 0 (some l0))))))), (l0, .inr (7, [.int (-900), .int (-900), .int 1, .ref d1, .ref d2, .ref d3, .int 0, .int 0, .int 0, .int 0, .int (-1)])), (a4, .inr (2, [.int 2, .ref q4, .int 2])), (q4, .inl ((g.2.2.1 4), 10, .inr (.inr (.inr (.inr (va_up (va_up (fun _ => none) 0 (some e0)) 1 (some e0b))))))), (e0, .inr (8, [.int 0, .int 0, .int 0, .int eh, .int (-1)])), (e0b, .inr (8, [.int 0, .int 0, .int 1, .int ehb, .int (-1)])), (a5, .inr (4, [.ref k0, .ref r0, .ref r1, .ref r2, .ref r3, .ref r4, .ref r5, .int 0])), (r0, .inr (2, [.int 0, .ref g.2.1, .int 0])), (k0, .inr (6, [.ref b6, .ref b7, .ref b8, .ref b9, .ref b10, .int 0, .int (nI kn)])), (b6, .inl ((g.2.2.1 0), 200, .inl f6)), (b7, .inl ((g.2.2.1 0), 200, .inl f7)), (b8, .inl ((g.2.2.1 0), 200, .inl f8)), (b9, .inl ((g.2.2.1 0), 200, .inl f9)), (b10, .inl ((g.2.2.1 0), 200, .inl f10))]

set_option maxHeartbeats 4000000 in
set_option maxRecDepth 100000 in
theorem m_X11_getFuelt0 (l : Launch) (hl0 : l.stackTraces = false) (g : kG) (h0 : Nat) (a1 : Nat) (a2 : Nat) (a3 : Nat) (a4 : Nat) (a5 : Nat) (zh : Int32) (zf : Int32) (zw : Int32) (ze : Int32) (zn : Int32) (zm : Int32) (q3 : Nat) (mc3 : Int32) (f3 : Nat → Option Nat) (s0 : Nat) (sA : Nat) (sL : Nat) (sP : Nat) (sS : Nat) (ea : Int32) (no : Int32) (fu : Int32) (fo : Int32) (sa : Int32) (po : Int32) (ch : Int32) (rb : Int32) (on : Int32) (li : Int32) (sp : Int32) (hu : Int32) (mu : Int32) (sx : Nat)  : kc l g yX11_getFuel prog_1_method_18_code 2 (some .int) 4 85 0 0 [.ref h0, .int 0] [(h0, .inr (13, [.ref a1, .ref a2, .ref a3, .ref a4, .ref a5, .int zh, .int zf, .int zw, .int ze, .int zn, .int zm])), (a3, .inr (2, [.int mc3, .ref q3, .int 2])), (q3, .inl ((g.2.2.1 4), 10, .inr (.inr (.inr (.inr (va_up (va_up f3 0 (some s0)) 1 (some sx))))))), (s0, .inr (10, [.ref sA, .ref sL, .ref sP, .ref sS, .int ea, .int no, .int fu, .int fo, .int sa, .int po, .int ch, .int rb, .int on, .int li, .int sp, .int hu, .int mu]))] (fun v w => (v = some (.int fu) ∧ w = [(h0, .inr (13, [.ref a1, .ref a2, .ref a3, .ref a4, .ref a5, .int zh, .int zf, .int zw, .int ze, .int zn, .int zm])), (a3, .inr (2, [.int mc3, .ref q3, .int 2])), (q3, .inl ((g.2.2.1 4), 10, .inr (.inr (.inr (.inr (va_up (va_up f3 0 (some s0)) 1 (some sx))))))), (s0, .inr (10, [.ref sA, .ref sL, .ref sP, .ref sS, .int ea, .int no, .int fu, .int fo, .int sa, .int po, .int ch, .int rb, .int on, .int li, .int sp, .int hu, .int mu]))])) (fun _ _ => False) := by
  refine kbody (by decide) (Nat.le_of_ble_eq_true rfl) ?_
  intro p e s m args below meth c A H K ht G hP hD hA hS ls hl
  have K : KB p s m meth c RX11 "getFuel" prog_1_method_18_code 2 (some .int) := K
  obtain ⟨hx, hb, hml, hown, hlocks, hr, hin⟩ := id K
  have hl : lv_has ls 2 [(0, .ref h0), (1, .int 0)] := hl
  refine lv_aload_n hx hb dX11_getFuel_0 rfl (lv_at hl 0 rfl) ?_
  refine lv_iload_n hx hb dX11_getFuel_1 rfl (lv_at hl 1 rfl) ?_
  refine kcallV (wc := [(h0, .inr (13, [.ref a1, .ref a2, .ref a3, .ref a4, .ref a5, .int zh, .int zf, .int zw, .int ze, .int zn, .int zm])), (a3, .inr (2, [.int mc3, .ref q3, .int 2])), (q3, .inl ((g.2.2.1 4), 10, .inr (.inr (.inr (.inr (va_up (va_up f3 0 (some s0)) 1 (some sx))))))), (s0, .inr (10, [.ref sA, .ref sL, .ref sP, .ref sS, .int ea, .int no, .int fu, .int fo, .int sa, .int po, .int ch, .int rb, .int on, .int li, .int sp, .int hu, .int mu]))]) (wr := []) (As := [.int 0]) (rest := []) K G (m_X11_shipAt20 l hl0 g h0 a1 a2 a3 a4 a5 zh zf zw ze zn zm q3 mc3 f3 s0 sA sL sP sS ea no fu fo sa po ch rb on li sp hu mu sx ) hP hD hS hA hl kw_426 kw_427 kw_428 kw_429 kw_63 ydX11_shipAt [0, 1, 2, 3] [] rfl rfl rfl rfl (by decide) (ci := 13) (q0 := 0) rfl rfl rfl rfl rfl (Nat.le_of_ble_eq_true rfl) dX11_getFuel_2 ⟨Nat.le_of_ble_eq_true rfl, Nat.le_of_ble_eq_true rfl⟩ ⟨Nat.le_of_ble_eq_true rfl, Nat.le_of_ble_eq_true rfl⟩ (fun _ _ _ _ _ _ hX _ _ _ _ _ _ => hX.elim) (fun v w1 H locs hQ hP hD hS => ?_)
  obtain ⟨rfl, rfl⟩ := hQ
  have hP : va_P g.1 vwCl [(h0, .inr (13, [.ref a1, .ref a2, .ref a3, .ref a4, .ref a5, .int zh, .int zf, .int zw, .int ze, .int zn, .int zm])), (a3, .inr (2, [.int mc3, .ref q3, .int 2])), (q3, .inl ((g.2.2.1 4), 10, .inr (.inr (.inr (.inr (va_up (va_up f3 0 (some s0)) 1 (some sx))))))), (s0, .inr (10, [.ref sA, .ref sL, .ref sP, .ref sS, .int ea, .int no, .int fu, .int fo, .int sa, .int po, .int ch, .int rb, .int on, .int li, .int sp, .int hu, .int mu]))] H := hP
  have hD : va_D A [(h0, .inr (13, [.ref a1, .ref a2, .ref a3, .ref a4, .ref a5, .int zh, .int zf, .int zw, .int ze, .int zn, .int zm])), (a3, .inr (2, [.int mc3, .ref q3, .int 2])), (q3, .inl ((g.2.2.1 4), 10, .inr (.inr (.inr (.inr (va_up (va_up f3 0 (some s0)) 1 (some sx))))))), (s0, .inr (10, [.ref sA, .ref sL, .ref sP, .ref sS, .int ea, .int no, .int fu, .int fo, .int sa, .int po, .int ch, .int rb, .int on, .int li, .int sp, .int hu, .int mu]))] := hD
  refine W.widen (k := 0) (n := 0) (by decide) (by decide) ?_
  refine W.eq (g2 := F0 m 5 ls [.ref s0]) rfl ?_
  refine va_get (D := g.1) (ci := 10) (v := .int fu) (C := RX8) (T := TX8) (N := 17) hx hb G.ws inX8 hown G.K hP 3 rfl rfl 6 (by decide) (G.w kw_440) (fun _ h9 => h9) rfl dX11_getFuel_5 ?_
  exact kretI K hP hD hS [0, 1, 2, 3] [(h0, .inr (13, [.ref a1, .ref a2, .ref a3, .ref a4, .ref a5, .int zh, .int zf, .int zw, .int ze, .int zn, .int zm])), (a3, .inr (2, [.int mc3, .ref q3, .int 2])), (q3, .inl ((g.2.2.1 4), 10, .inr (.inr (.inr (.inr (va_up (va_up f3 0 (some s0)) 1 (some sx))))))), (s0, .inr (10, [.ref sA, .ref sL, .ref sP, .ref sS, .int ea, .int no, .int fu, .int fo, .int sa, .int po, .int ch, .int rb, .int on, .int li, .int sp, .int hu, .int mu]))] rfl rfl ⟨rfl, rfl⟩ (by decide) (by decide) dX11_getFuel_8

set_option maxHeartbeats 4000000 in
set_option maxRecDepth 100000 in
theorem m_X11_getFoodt0 (l : Launch) (hl0 : l.stackTraces = false) (g : kG) (h0 : Nat) (a1 : Nat) (a2 : Nat) (a3 : Nat) (a4 : Nat) (a5 : Nat) (zh : Int32) (zf : Int32) (zw : Int32) (ze : Int32) (zn : Int32) (zm : Int32) (q3 : Nat) (mc3 : Int32) (f3 : Nat → Option Nat) (s0 : Nat) (sA : Nat) (sL : Nat) (sP : Nat) (sS : Nat) (ea : Int32) (no : Int32) (fu : Int32) (fo : Int32) (sa : Int32) (po : Int32) (ch : Int32) (rb : Int32) (on : Int32) (li : Int32) (sp : Int32) (hu : Int32) (mu : Int32) (sx : Nat)  : kc l g yX11_getFood prog_1_method_19_code 2 (some .int) 4 85 0 0 [.ref h0, .int 0] [(h0, .inr (13, [.ref a1, .ref a2, .ref a3, .ref a4, .ref a5, .int zh, .int zf, .int zw, .int ze, .int zn, .int zm])), (a3, .inr (2, [.int mc3, .ref q3, .int 2])), (q3, .inl ((g.2.2.1 4), 10, .inr (.inr (.inr (.inr (va_up (va_up f3 0 (some s0)) 1 (some sx))))))), (s0, .inr (10, [.ref sA, .ref sL, .ref sP, .ref sS, .int ea, .int no, .int fu, .int fo, .int sa, .int po, .int ch, .int rb, .int on, .int li, .int sp, .int hu, .int mu]))] (fun v w => (v = some (.int fo) ∧ w = [(h0, .inr (13, [.ref a1, .ref a2, .ref a3, .ref a4, .ref a5, .int zh, .int zf, .int zw, .int ze, .int zn, .int zm])), (a3, .inr (2, [.int mc3, .ref q3, .int 2])), (q3, .inl ((g.2.2.1 4), 10, .inr (.inr (.inr (.inr (va_up (va_up f3 0 (some s0)) 1 (some sx))))))), (s0, .inr (10, [.ref sA, .ref sL, .ref sP, .ref sS, .int ea, .int no, .int fu, .int fo, .int sa, .int po, .int ch, .int rb, .int on, .int li, .int sp, .int hu, .int mu]))])) (fun _ _ => False) := by
  refine kbody (by decide) (Nat.le_of_ble_eq_true rfl) ?_
  intro p e s m args below meth c A H K ht G hP hD hA hS ls hl
  have K : KB p s m meth c RX11 "getFood" prog_1_method_19_code 2 (some .int) := K
  obtain ⟨hx, hb, hml, hown, hlocks, hr, hin⟩ := id K
  have hl : lv_has ls 2 [(0, .ref h0), (1, .int 0)] := hl
  refine lv_aload_n hx hb dX11_getFood_0 rfl (lv_at hl 0 rfl) ?_
  refine lv_iload_n hx hb dX11_getFood_1 rfl (lv_at hl 1 rfl) ?_
  refine kcallV (wc := [(h0, .inr (13, [.ref a1, .ref a2, .ref a3, .ref a4, .ref a5, .int zh, .int zf, .int zw, .int ze, .int zn, .int zm])), (a3, .inr (2, [.int mc3, .ref q3, .int 2])), (q3, .inl ((g.2.2.1 4), 10, .inr (.inr (.inr (.inr (va_up (va_up f3 0 (some s0)) 1 (some sx))))))), (s0, .inr (10, [.ref sA, .ref sL, .ref sP, .ref sS, .int ea, .int no, .int fu, .int fo, .int sa, .int po, .int ch, .int rb, .int on, .int li, .int sp, .int hu, .int mu]))]) (wr := []) (As := [.int 0]) (rest := []) K G (m_X11_shipAt20 l hl0 g h0 a1 a2 a3 a4 a5 zh zf zw ze zn zm q3 mc3 f3 s0 sA sL sP sS ea no fu fo sa po ch rb on li sp hu mu sx ) hP hD hS hA hl kw_426 kw_427 kw_428 kw_429 kw_63 ydX11_shipAt [0, 1, 2, 3] [] rfl rfl rfl rfl (by decide) (ci := 13) (q0 := 0) rfl rfl rfl rfl rfl (Nat.le_of_ble_eq_true rfl) dX11_getFood_2 ⟨Nat.le_of_ble_eq_true rfl, Nat.le_of_ble_eq_true rfl⟩ ⟨Nat.le_of_ble_eq_true rfl, Nat.le_of_ble_eq_true rfl⟩ (fun _ _ _ _ _ _ hX _ _ _ _ _ _ => hX.elim) (fun v w1 H locs hQ hP hD hS => ?_)
  obtain ⟨rfl, rfl⟩ := hQ
  have hP : va_P g.1 vwCl [(h0, .inr (13, [.ref a1, .ref a2, .ref a3, .ref a4, .ref a5, .int zh, .int zf, .int zw, .int ze, .int zn, .int zm])), (a3, .inr (2, [.int mc3, .ref q3, .int 2])), (q3, .inl ((g.2.2.1 4), 10, .inr (.inr (.inr (.inr (va_up (va_up f3 0 (some s0)) 1 (some sx))))))), (s0, .inr (10, [.ref sA, .ref sL, .ref sP, .ref sS, .int ea, .int no, .int fu, .int fo, .int sa, .int po, .int ch, .int rb, .int on, .int li, .int sp, .int hu, .int mu]))] H := hP
  have hD : va_D A [(h0, .inr (13, [.ref a1, .ref a2, .ref a3, .ref a4, .ref a5, .int zh, .int zf, .int zw, .int ze, .int zn, .int zm])), (a3, .inr (2, [.int mc3, .ref q3, .int 2])), (q3, .inl ((g.2.2.1 4), 10, .inr (.inr (.inr (.inr (va_up (va_up f3 0 (some s0)) 1 (some sx))))))), (s0, .inr (10, [.ref sA, .ref sL, .ref sP, .ref sS, .int ea, .int no, .int fu, .int fo, .int sa, .int po, .int ch, .int rb, .int on, .int li, .int sp, .int hu, .int mu]))] := hD
  refine W.widen (k := 0) (n := 0) (by decide) (by decide) ?_
  refine W.eq (g2 := F0 m 5 ls [.ref s0]) rfl ?_
  refine va_get (D := g.1) (ci := 10) (v := .int fo) (C := RX8) (T := TX8) (N := 17) hx hb G.ws inX8 hown G.K hP 3 rfl rfl 7 (by decide) (G.w kw_441) (fun _ h9 => h9) rfl dX11_getFood_5 ?_
  exact kretI K hP hD hS [0, 1, 2, 3] [(h0, .inr (13, [.ref a1, .ref a2, .ref a3, .ref a4, .ref a5, .int zh, .int zf, .int zw, .int ze, .int zn, .int zm])), (a3, .inr (2, [.int mc3, .ref q3, .int 2])), (q3, .inl ((g.2.2.1 4), 10, .inr (.inr (.inr (.inr (va_up (va_up f3 0 (some s0)) 1 (some sx))))))), (s0, .inr (10, [.ref sA, .ref sL, .ref sP, .ref sS, .int ea, .int no, .int fu, .int fo, .int sa, .int po, .int ch, .int rb, .int on, .int li, .int sp, .int hu, .int mu]))] rfl rfl ⟨rfl, rfl⟩ (by decide) (by decide) dX11_getFood_8

set_option maxHeartbeats 4000000 in
set_option maxRecDepth 100000 in
theorem m_X11_getSaltt0 (l : Launch) (hl0 : l.stackTraces = false) (g : kG) (h0 : Nat) (a1 : Nat) (a2 : Nat) (a3 : Nat) (a4 : Nat) (a5 : Nat) (zh : Int32) (zf : Int32) (zw : Int32) (ze : Int32) (zn : Int32) (zm : Int32) (q3 : Nat) (mc3 : Int32) (f3 : Nat → Option Nat) (s0 : Nat) (sA : Nat) (sL : Nat) (sP : Nat) (sS : Nat) (ea : Int32) (no : Int32) (fu : Int32) (fo : Int32) (sa : Int32) (po : Int32) (ch : Int32) (rb : Int32) (on : Int32) (li : Int32) (sp : Int32) (hu : Int32) (mu : Int32) (sx : Nat)  : kc l g yX11_getSalt prog_1_method_20_code 2 (some .int) 4 85 0 0 [.ref h0, .int 0] [(h0, .inr (13, [.ref a1, .ref a2, .ref a3, .ref a4, .ref a5, .int zh, .int zf, .int zw, .int ze, .int zn, .int zm])), (a3, .inr (2, [.int mc3, .ref q3, .int 2])), (q3, .inl ((g.2.2.1 4), 10, .inr (.inr (.inr (.inr (va_up (va_up f3 0 (some s0)) 1 (some sx))))))), (s0, .inr (10, [.ref sA, .ref sL, .ref sP, .ref sS, .int ea, .int no, .int fu, .int fo, .int sa, .int po, .int ch, .int rb, .int on, .int li, .int sp, .int hu, .int mu]))] (fun v w => (v = some (.int sa) ∧ w = [(h0, .inr (13, [.ref a1, .ref a2, .ref a3, .ref a4, .ref a5, .int zh, .int zf, .int zw, .int ze, .int zn, .int zm])), (a3, .inr (2, [.int mc3, .ref q3, .int 2])), (q3, .inl ((g.2.2.1 4), 10, .inr (.inr (.inr (.inr (va_up (va_up f3 0 (some s0)) 1 (some sx))))))), (s0, .inr (10, [.ref sA, .ref sL, .ref sP, .ref sS, .int ea, .int no, .int fu, .int fo, .int sa, .int po, .int ch, .int rb, .int on, .int li, .int sp, .int hu, .int mu]))])) (fun _ _ => False) := by
  refine kbody (by decide) (Nat.le_of_ble_eq_true rfl) ?_
  intro p e s m args below meth c A H K ht G hP hD hA hS ls hl
  have K : KB p s m meth c RX11 "getSalt" prog_1_method_20_code 2 (some .int) := K
  obtain ⟨hx, hb, hml, hown, hlocks, hr, hin⟩ := id K
  have hl : lv_has ls 2 [(0, .ref h0), (1, .int 0)] := hl
  refine lv_aload_n hx hb dX11_getSalt_0 rfl (lv_at hl 0 rfl) ?_
  refine lv_iload_n hx hb dX11_getSalt_1 rfl (lv_at hl 1 rfl) ?_
  refine kcallV (wc := [(h0, .inr (13, [.ref a1, .ref a2, .ref a3, .ref a4, .ref a5, .int zh, .int zf, .int zw, .int ze, .int zn, .int zm])), (a3, .inr (2, [.int mc3, .ref q3, .int 2])), (q3, .inl ((g.2.2.1 4), 10, .inr (.inr (.inr (.inr (va_up (va_up f3 0 (some s0)) 1 (some sx))))))), (s0, .inr (10, [.ref sA, .ref sL, .ref sP, .ref sS, .int ea, .int no, .int fu, .int fo, .int sa, .int po, .int ch, .int rb, .int on, .int li, .int sp, .int hu, .int mu]))]) (wr := []) (As := [.int 0]) (rest := []) K G (m_X11_shipAt20 l hl0 g h0 a1 a2 a3 a4 a5 zh zf zw ze zn zm q3 mc3 f3 s0 sA sL sP sS ea no fu fo sa po ch rb on li sp hu mu sx ) hP hD hS hA hl kw_426 kw_427 kw_428 kw_429 kw_63 ydX11_shipAt [0, 1, 2, 3] [] rfl rfl rfl rfl (by decide) (ci := 13) (q0 := 0) rfl rfl rfl rfl rfl (Nat.le_of_ble_eq_true rfl) dX11_getSalt_2 ⟨Nat.le_of_ble_eq_true rfl, Nat.le_of_ble_eq_true rfl⟩ ⟨Nat.le_of_ble_eq_true rfl, Nat.le_of_ble_eq_true rfl⟩ (fun _ _ _ _ _ _ hX _ _ _ _ _ _ => hX.elim) (fun v w1 H locs hQ hP hD hS => ?_)
  obtain ⟨rfl, rfl⟩ := hQ
  have hP : va_P g.1 vwCl [(h0, .inr (13, [.ref a1, .ref a2, .ref a3, .ref a4, .ref a5, .int zh, .int zf, .int zw, .int ze, .int zn, .int zm])), (a3, .inr (2, [.int mc3, .ref q3, .int 2])), (q3, .inl ((g.2.2.1 4), 10, .inr (.inr (.inr (.inr (va_up (va_up f3 0 (some s0)) 1 (some sx))))))), (s0, .inr (10, [.ref sA, .ref sL, .ref sP, .ref sS, .int ea, .int no, .int fu, .int fo, .int sa, .int po, .int ch, .int rb, .int on, .int li, .int sp, .int hu, .int mu]))] H := hP
  have hD : va_D A [(h0, .inr (13, [.ref a1, .ref a2, .ref a3, .ref a4, .ref a5, .int zh, .int zf, .int zw, .int ze, .int zn, .int zm])), (a3, .inr (2, [.int mc3, .ref q3, .int 2])), (q3, .inl ((g.2.2.1 4), 10, .inr (.inr (.inr (.inr (va_up (va_up f3 0 (some s0)) 1 (some sx))))))), (s0, .inr (10, [.ref sA, .ref sL, .ref sP, .ref sS, .int ea, .int no, .int fu, .int fo, .int sa, .int po, .int ch, .int rb, .int on, .int li, .int sp, .int hu, .int mu]))] := hD
  refine W.widen (k := 0) (n := 0) (by decide) (by decide) ?_
  refine W.eq (g2 := F0 m 5 ls [.ref s0]) rfl ?_
  refine va_get (D := g.1) (ci := 10) (v := .int sa) (C := RX8) (T := TX8) (N := 17) hx hb G.ws inX8 hown G.K hP 3 rfl rfl 8 (by decide) (G.w kw_167) (fun _ h9 => h9) rfl dX11_getSalt_5 ?_
  exact kretI K hP hD hS [0, 1, 2, 3] [(h0, .inr (13, [.ref a1, .ref a2, .ref a3, .ref a4, .ref a5, .int zh, .int zf, .int zw, .int ze, .int zn, .int zm])), (a3, .inr (2, [.int mc3, .ref q3, .int 2])), (q3, .inl ((g.2.2.1 4), 10, .inr (.inr (.inr (.inr (va_up (va_up f3 0 (some s0)) 1 (some sx))))))), (s0, .inr (10, [.ref sA, .ref sL, .ref sP, .ref sS, .int ea, .int no, .int fu, .int fo, .int sa, .int po, .int ch, .int rb, .int on, .int li, .int sp, .int hu, .int mu]))] rfl rfl ⟨rfl, rfl⟩ (by decide) (by decide) dX11_getSalt_8

set_option maxHeartbeats 4000000 in
set_option maxRecDepth 100000 in
theorem m_X11_getListenerst0 (l : Launch) (hl0 : l.stackTraces = false) (g : kG) (h0 : Nat) (a1 : Nat) (a2 : Nat) (a3 : Nat) (a4 : Nat) (a5 : Nat) (zh : Int32) (zf : Int32) (zw : Int32) (ze : Int32) (zn : Int32) (zm : Int32) (q3 : Nat) (mc3 : Int32) (f3 : Nat → Option Nat) (s0 : Nat) (sA : Nat) (sL : Nat) (sP : Nat) (sS : Nat) (ea : Int32) (no : Int32) (fu : Int32) (fo : Int32) (sa : Int32) (po : Int32) (ch : Int32) (rb : Int32) (on : Int32) (li : Int32) (sp : Int32) (hu : Int32) (mu : Int32) (sx : Nat)  : kc l g yX11_getListeners prog_1_method_27_code 2 (some .int) 4 85 0 0 [.ref h0, .int 0] [(h0, .inr (13, [.ref a1, .ref a2, .ref a3, .ref a4, .ref a5, .int zh, .int zf, .int zw, .int ze, .int zn, .int zm])), (a3, .inr (2, [.int mc3, .ref q3, .int 2])), (q3, .inl ((g.2.2.1 4), 10, .inr (.inr (.inr (.inr (va_up (va_up f3 0 (some s0)) 1 (some sx))))))), (s0, .inr (10, [.ref sA, .ref sL, .ref sP, .ref sS, .int ea, .int no, .int fu, .int fo, .int sa, .int po, .int ch, .int rb, .int on, .int li, .int sp, .int hu, .int mu]))] (fun v w => (v = some (.int li) ∧ w = [(h0, .inr (13, [.ref a1, .ref a2, .ref a3, .ref a4, .ref a5, .int zh, .int zf, .int zw, .int ze, .int zn, .int zm])), (a3, .inr (2, [.int mc3, .ref q3, .int 2])), (q3, .inl ((g.2.2.1 4), 10, .inr (.inr (.inr (.inr (va_up (va_up f3 0 (some s0)) 1 (some sx))))))), (s0, .inr (10, [.ref sA, .ref sL, .ref sP, .ref sS, .int ea, .int no, .int fu, .int fo, .int sa, .int po, .int ch, .int rb, .int on, .int li, .int sp, .int hu, .int mu]))])) (fun _ _ => False) := by
  refine kbody (by decide) (Nat.le_of_ble_eq_true rfl) ?_
  intro p e s m args below meth c A H K ht G hP hD hA hS ls hl
  have K : KB p s m meth c RX11 "getListeners" prog_1_method_27_code 2 (some .int) := K
  obtain ⟨hx, hb, hml, hown, hlocks, hr, hin⟩ := id K
  have hl : lv_has ls 2 [(0, .ref h0), (1, .int 0)] := hl
  refine lv_aload_n hx hb dX11_getListeners_0 rfl (lv_at hl 0 rfl) ?_
  refine lv_iload_n hx hb dX11_getListeners_1 rfl (lv_at hl 1 rfl) ?_
  refine kcallV (wc := [(h0, .inr (13, [.ref a1, .ref a2, .ref a3, .ref a4, .ref a5, .int zh, .int zf, .int zw, .int ze, .int zn, .int zm])), (a3, .inr (2, [.int mc3, .ref q3, .int 2])), (q3, .inl ((g.2.2.1 4), 10, .inr (.inr (.inr (.inr (va_up (va_up f3 0 (some s0)) 1 (some sx))))))), (s0, .inr (10, [.ref sA, .ref sL, .ref sP, .ref sS, .int ea, .int no, .int fu, .int fo, .int sa, .int po, .int ch, .int rb, .int on, .int li, .int sp, .int hu, .int mu]))]) (wr := []) (As := [.int 0]) (rest := []) K G (m_X11_shipAt20 l hl0 g h0 a1 a2 a3 a4 a5 zh zf zw ze zn zm q3 mc3 f3 s0 sA sL sP sS ea no fu fo sa po ch rb on li sp hu mu sx ) hP hD hS hA hl kw_426 kw_427 kw_428 kw_429 kw_63 ydX11_shipAt [0, 1, 2, 3] [] rfl rfl rfl rfl (by decide) (ci := 13) (q0 := 0) rfl rfl rfl rfl rfl (Nat.le_of_ble_eq_true rfl) dX11_getListeners_2 ⟨Nat.le_of_ble_eq_true rfl, Nat.le_of_ble_eq_true rfl⟩ ⟨Nat.le_of_ble_eq_true rfl, Nat.le_of_ble_eq_true rfl⟩ (fun _ _ _ _ _ _ hX _ _ _ _ _ _ => hX.elim) (fun v w1 H locs hQ hP hD hS => ?_)
  obtain ⟨rfl, rfl⟩ := hQ
  have hP : va_P g.1 vwCl [(h0, .inr (13, [.ref a1, .ref a2, .ref a3, .ref a4, .ref a5, .int zh, .int zf, .int zw, .int ze, .int zn, .int zm])), (a3, .inr (2, [.int mc3, .ref q3, .int 2])), (q3, .inl ((g.2.2.1 4), 10, .inr (.inr (.inr (.inr (va_up (va_up f3 0 (some s0)) 1 (some sx))))))), (s0, .inr (10, [.ref sA, .ref sL, .ref sP, .ref sS, .int ea, .int no, .int fu, .int fo, .int sa, .int po, .int ch, .int rb, .int on, .int li, .int sp, .int hu, .int mu]))] H := hP
  have hD : va_D A [(h0, .inr (13, [.ref a1, .ref a2, .ref a3, .ref a4, .ref a5, .int zh, .int zf, .int zw, .int ze, .int zn, .int zm])), (a3, .inr (2, [.int mc3, .ref q3, .int 2])), (q3, .inl ((g.2.2.1 4), 10, .inr (.inr (.inr (.inr (va_up (va_up f3 0 (some s0)) 1 (some sx))))))), (s0, .inr (10, [.ref sA, .ref sL, .ref sP, .ref sS, .int ea, .int no, .int fu, .int fo, .int sa, .int po, .int ch, .int rb, .int on, .int li, .int sp, .int hu, .int mu]))] := hD
  refine W.widen (k := 0) (n := 0) (by decide) (by decide) ?_
  refine W.eq (g2 := F0 m 5 ls [.ref s0]) rfl ?_
  refine va_get (D := g.1) (ci := 10) (v := .int li) (C := RX8) (T := TX8) (N := 17) hx hb G.ws inX8 hown G.K hP 3 rfl rfl 13 (by decide) (G.w kw_232) (fun _ h9 => h9) rfl dX11_getListeners_5 ?_
  exact kretI K hP hD hS [0, 1, 2, 3] [(h0, .inr (13, [.ref a1, .ref a2, .ref a3, .ref a4, .ref a5, .int zh, .int zf, .int zw, .int ze, .int zn, .int zm])), (a3, .inr (2, [.int mc3, .ref q3, .int 2])), (q3, .inl ((g.2.2.1 4), 10, .inr (.inr (.inr (.inr (va_up (va_up f3 0 (some s0)) 1 (some sx))))))), (s0, .inr (10, [.ref sA, .ref sL, .ref sP, .ref sS, .int ea, .int no, .int fu, .int fo, .int sa, .int po, .int ch, .int rb, .int on, .int li, .int sp, .int hu, .int mu]))] rfl rfl ⟨rfl, rfl⟩ (by decide) (by decide) dX11_getListeners_8

set_option maxHeartbeats 4000000 in
set_option maxRecDepth 100000 in
theorem m_X11_isOnAirt0 (l : Launch) (hl0 : l.stackTraces = false) (g : kG) (h0 : Nat) (a1 : Nat) (a2 : Nat) (a3 : Nat) (a4 : Nat) (a5 : Nat) (zh : Int32) (zf : Int32) (zw : Int32) (ze : Int32) (zn : Int32) (zm : Int32) (q3 : Nat) (mc3 : Int32) (f3 : Nat → Option Nat) (s0 : Nat) (sA : Nat) (sL : Nat) (sP : Nat) (sS : Nat) (ea : Int32) (no : Int32) (fu : Int32) (fo : Int32) (sa : Int32) (po : Int32) (ch : Int32) (rb : Int32) (on : Int32) (li : Int32) (sp : Int32) (hu : Int32) (mu : Int32) (sx : Nat) (hz : on = 0 ∨ on = 1) : kc l g yX11_isOnAir prog_1_method_24_code 2 (some .boolean) 4 85 0 0 [.ref h0, .int 0] [(h0, .inr (13, [.ref a1, .ref a2, .ref a3, .ref a4, .ref a5, .int zh, .int zf, .int zw, .int ze, .int zn, .int zm])), (a3, .inr (2, [.int mc3, .ref q3, .int 2])), (q3, .inl ((g.2.2.1 4), 10, .inr (.inr (.inr (.inr (va_up (va_up f3 0 (some s0)) 1 (some sx))))))), (s0, .inr (10, [.ref sA, .ref sL, .ref sP, .ref sS, .int ea, .int no, .int fu, .int fo, .int sa, .int po, .int ch, .int rb, .int on, .int li, .int sp, .int hu, .int mu]))] (fun v w => (v = some (.int on) ∧ w = [(h0, .inr (13, [.ref a1, .ref a2, .ref a3, .ref a4, .ref a5, .int zh, .int zf, .int zw, .int ze, .int zn, .int zm])), (a3, .inr (2, [.int mc3, .ref q3, .int 2])), (q3, .inl ((g.2.2.1 4), 10, .inr (.inr (.inr (.inr (va_up (va_up f3 0 (some s0)) 1 (some sx))))))), (s0, .inr (10, [.ref sA, .ref sL, .ref sP, .ref sS, .int ea, .int no, .int fu, .int fo, .int sa, .int po, .int ch, .int rb, .int on, .int li, .int sp, .int hu, .int mu]))])) (fun _ _ => False) := by
  refine kbody (by decide) (Nat.le_of_ble_eq_true rfl) ?_
  intro p e s m args below meth c A H K ht G hP hD hA hS ls hl
  have K : KB p s m meth c RX11 "isOnAir" prog_1_method_24_code 2 (some .boolean) := K
  obtain ⟨hx, hb, hml, hown, hlocks, hr, hin⟩ := id K
  have hl : lv_has ls 2 [(0, .ref h0), (1, .int 0)] := hl
  refine lv_aload_n hx hb dX11_isOnAir_0 rfl (lv_at hl 0 rfl) ?_
  refine lv_iload_n hx hb dX11_isOnAir_1 rfl (lv_at hl 1 rfl) ?_
  refine kcallV (wc := [(h0, .inr (13, [.ref a1, .ref a2, .ref a3, .ref a4, .ref a5, .int zh, .int zf, .int zw, .int ze, .int zn, .int zm])), (a3, .inr (2, [.int mc3, .ref q3, .int 2])), (q3, .inl ((g.2.2.1 4), 10, .inr (.inr (.inr (.inr (va_up (va_up f3 0 (some s0)) 1 (some sx))))))), (s0, .inr (10, [.ref sA, .ref sL, .ref sP, .ref sS, .int ea, .int no, .int fu, .int fo, .int sa, .int po, .int ch, .int rb, .int on, .int li, .int sp, .int hu, .int mu]))]) (wr := []) (As := [.int 0]) (rest := []) K G (m_X11_shipAt20 l hl0 g h0 a1 a2 a3 a4 a5 zh zf zw ze zn zm q3 mc3 f3 s0 sA sL sP sS ea no fu fo sa po ch rb on li sp hu mu sx ) hP hD hS hA hl kw_426 kw_427 kw_428 kw_429 kw_63 ydX11_shipAt [0, 1, 2, 3] [] rfl rfl rfl rfl (by decide) (ci := 13) (q0 := 0) rfl rfl rfl rfl rfl (Nat.le_of_ble_eq_true rfl) dX11_isOnAir_2 ⟨Nat.le_of_ble_eq_true rfl, Nat.le_of_ble_eq_true rfl⟩ ⟨Nat.le_of_ble_eq_true rfl, Nat.le_of_ble_eq_true rfl⟩ (fun _ _ _ _ _ _ hX _ _ _ _ _ _ => hX.elim) (fun v w1 H locs hQ hP hD hS => ?_)
  obtain ⟨rfl, rfl⟩ := hQ
  have hP : va_P g.1 vwCl [(h0, .inr (13, [.ref a1, .ref a2, .ref a3, .ref a4, .ref a5, .int zh, .int zf, .int zw, .int ze, .int zn, .int zm])), (a3, .inr (2, [.int mc3, .ref q3, .int 2])), (q3, .inl ((g.2.2.1 4), 10, .inr (.inr (.inr (.inr (va_up (va_up f3 0 (some s0)) 1 (some sx))))))), (s0, .inr (10, [.ref sA, .ref sL, .ref sP, .ref sS, .int ea, .int no, .int fu, .int fo, .int sa, .int po, .int ch, .int rb, .int on, .int li, .int sp, .int hu, .int mu]))] H := hP
  have hD : va_D A [(h0, .inr (13, [.ref a1, .ref a2, .ref a3, .ref a4, .ref a5, .int zh, .int zf, .int zw, .int ze, .int zn, .int zm])), (a3, .inr (2, [.int mc3, .ref q3, .int 2])), (q3, .inl ((g.2.2.1 4), 10, .inr (.inr (.inr (.inr (va_up (va_up f3 0 (some s0)) 1 (some sx))))))), (s0, .inr (10, [.ref sA, .ref sL, .ref sP, .ref sS, .int ea, .int no, .int fu, .int fo, .int sa, .int po, .int ch, .int rb, .int on, .int li, .int sp, .int hu, .int mu]))] := hD
  refine W.widen (k := 0) (n := 0) (by decide) (by decide) ?_
  refine W.eq (g2 := F0 m 5 ls [.ref s0]) rfl ?_
  refine va_get (D := g.1) (ci := 10) (v := .int on) (C := RX8) (T := TX8) (N := 17) hx hb G.ws inX8 hown G.K hP 3 rfl rfl 12 (by decide) (G.w kw_85) (fun _ h9 => h9) rfl dX11_isOnAir_5 ?_
  exact kretZ K hP hD hS [0, 1, 2, 3] [(h0, .inr (13, [.ref a1, .ref a2, .ref a3, .ref a4, .ref a5, .int zh, .int zf, .int zw, .int ze, .int zn, .int zm])), (a3, .inr (2, [.int mc3, .ref q3, .int 2])), (q3, .inl ((g.2.2.1 4), 10, .inr (.inr (.inr (.inr (va_up (va_up f3 0 (some s0)) 1 (some sx))))))), (s0, .inr (10, [.ref sA, .ref sL, .ref sP, .ref sS, .int ea, .int no, .int fu, .int fo, .int sa, .int po, .int ch, .int rb, .int on, .int li, .int sp, .int hu, .int mu]))] rfl rfl ⟨rfl, rfl⟩ (by decide) (by decide) dX11_isOnAir_8 (kz_nar2 (by repeat' first | with_reducible refine kz_if ?_ ?_ | with_reducible exact Or.inl rfl | with_reducible exact Or.inr rfl | with_reducible assumption | exact z_r_X11_isNight _ | exact z_r_X11_isTape _ | exact z_r_X2_canRun _ _ _ _ _ | exact z_r_X8_canSend _ _ _ _ _ | exact z_r_X11_isInsideLine _ _ _ _ | exact z_r_X11_isStranded _ _ _ _ _ | exact z_r_X11_isPerson _))

set_option maxHeartbeats 4000000 in
set_option maxRecDepth 100000 in
theorem m_X11_isMutinyt0 (l : Launch) (hl0 : l.stackTraces = false) (g : kG) (h0 : Nat) (a1 : Nat) (a2 : Nat) (a3 : Nat) (a4 : Nat) (a5 : Nat) (zh : Int32) (zf : Int32) (zw : Int32) (ze : Int32) (zn : Int32) (zm : Int32) (q3 : Nat) (mc3 : Int32) (f3 : Nat → Option Nat) (s0 : Nat) (sA : Nat) (sL : Nat) (sP : Nat) (sS : Nat) (ea : Int32) (no : Int32) (fu : Int32) (fo : Int32) (sa : Int32) (po : Int32) (ch : Int32) (rb : Int32) (on : Int32) (li : Int32) (sp : Int32) (hu : Int32) (mu : Int32) (sx : Nat) (hz : mu = 0 ∨ mu = 1) : kc l g yX11_isMutiny prog_1_method_36_code 2 (some .boolean) 4 85 0 0 [.ref h0, .int 0] [(h0, .inr (13, [.ref a1, .ref a2, .ref a3, .ref a4, .ref a5, .int zh, .int zf, .int zw, .int ze, .int zn, .int zm])), (a3, .inr (2, [.int mc3, .ref q3, .int 2])), (q3, .inl ((g.2.2.1 4), 10, .inr (.inr (.inr (.inr (va_up (va_up f3 0 (some s0)) 1 (some sx))))))), (s0, .inr (10, [.ref sA, .ref sL, .ref sP, .ref sS, .int ea, .int no, .int fu, .int fo, .int sa, .int po, .int ch, .int rb, .int on, .int li, .int sp, .int hu, .int mu]))] (fun v w => (v = some (.int mu) ∧ w = [(h0, .inr (13, [.ref a1, .ref a2, .ref a3, .ref a4, .ref a5, .int zh, .int zf, .int zw, .int ze, .int zn, .int zm])), (a3, .inr (2, [.int mc3, .ref q3, .int 2])), (q3, .inl ((g.2.2.1 4), 10, .inr (.inr (.inr (.inr (va_up (va_up f3 0 (some s0)) 1 (some sx))))))), (s0, .inr (10, [.ref sA, .ref sL, .ref sP, .ref sS, .int ea, .int no, .int fu, .int fo, .int sa, .int po, .int ch, .int rb, .int on, .int li, .int sp, .int hu, .int mu]))])) (fun _ _ => False) := by
  refine kbody (by decide) (Nat.le_of_ble_eq_true rfl) ?_
  intro p e s m args below meth c A H K ht G hP hD hA hS ls hl
  have K : KB p s m meth c RX11 "isMutiny" prog_1_method_36_code 2 (some .boolean) := K
  obtain ⟨hx, hb, hml, hown, hlocks, hr, hin⟩ := id K
  have hl : lv_has ls 2 [(0, .ref h0), (1, .int 0)] := hl
  refine lv_aload_n hx hb dX11_isMutiny_0 rfl (lv_at hl 0 rfl) ?_
  refine lv_iload_n hx hb dX11_isMutiny_1 rfl (lv_at hl 1 rfl) ?_
  refine kcallV (wc := [(h0, .inr (13, [.ref a1, .ref a2, .ref a3, .ref a4, .ref a5, .int zh, .int zf, .int zw, .int ze, .int zn, .int zm])), (a3, .inr (2, [.int mc3, .ref q3, .int 2])), (q3, .inl ((g.2.2.1 4), 10, .inr (.inr (.inr (.inr (va_up (va_up f3 0 (some s0)) 1 (some sx))))))), (s0, .inr (10, [.ref sA, .ref sL, .ref sP, .ref sS, .int ea, .int no, .int fu, .int fo, .int sa, .int po, .int ch, .int rb, .int on, .int li, .int sp, .int hu, .int mu]))]) (wr := []) (As := [.int 0]) (rest := []) K G (m_X11_shipAt20 l hl0 g h0 a1 a2 a3 a4 a5 zh zf zw ze zn zm q3 mc3 f3 s0 sA sL sP sS ea no fu fo sa po ch rb on li sp hu mu sx ) hP hD hS hA hl kw_426 kw_427 kw_428 kw_429 kw_63 ydX11_shipAt [0, 1, 2, 3] [] rfl rfl rfl rfl (by decide) (ci := 13) (q0 := 0) rfl rfl rfl rfl rfl (Nat.le_of_ble_eq_true rfl) dX11_isMutiny_2 ⟨Nat.le_of_ble_eq_true rfl, Nat.le_of_ble_eq_true rfl⟩ ⟨Nat.le_of_ble_eq_true rfl, Nat.le_of_ble_eq_true rfl⟩ (fun _ _ _ _ _ _ hX _ _ _ _ _ _ => hX.elim) (fun v w1 H locs hQ hP hD hS => ?_)
  obtain ⟨rfl, rfl⟩ := hQ
  have hP : va_P g.1 vwCl [(h0, .inr (13, [.ref a1, .ref a2, .ref a3, .ref a4, .ref a5, .int zh, .int zf, .int zw, .int ze, .int zn, .int zm])), (a3, .inr (2, [.int mc3, .ref q3, .int 2])), (q3, .inl ((g.2.2.1 4), 10, .inr (.inr (.inr (.inr (va_up (va_up f3 0 (some s0)) 1 (some sx))))))), (s0, .inr (10, [.ref sA, .ref sL, .ref sP, .ref sS, .int ea, .int no, .int fu, .int fo, .int sa, .int po, .int ch, .int rb, .int on, .int li, .int sp, .int hu, .int mu]))] H := hP
  have hD : va_D A [(h0, .inr (13, [.ref a1, .ref a2, .ref a3, .ref a4, .ref a5, .int zh, .int zf, .int zw, .int ze, .int zn, .int zm])), (a3, .inr (2, [.int mc3, .ref q3, .int 2])), (q3, .inl ((g.2.2.1 4), 10, .inr (.inr (.inr (.inr (va_up (va_up f3 0 (some s0)) 1 (some sx))))))), (s0, .inr (10, [.ref sA, .ref sL, .ref sP, .ref sS, .int ea, .int no, .int fu, .int fo, .int sa, .int po, .int ch, .int rb, .int on, .int li, .int sp, .int hu, .int mu]))] := hD
  refine W.widen (k := 0) (n := 0) (by decide) (by decide) ?_
  refine W.eq (g2 := F0 m 5 ls [.ref s0]) rfl ?_
  refine va_get (D := g.1) (ci := 10) (v := .int mu) (C := RX8) (T := TX8) (N := 17) hx hb G.ws inX8 hown G.K hP 3 rfl rfl 16 (by decide) (G.w kw_509) (fun _ h9 => h9) rfl dX11_isMutiny_5 ?_
  exact kretZ K hP hD hS [0, 1, 2, 3] [(h0, .inr (13, [.ref a1, .ref a2, .ref a3, .ref a4, .ref a5, .int zh, .int zf, .int zw, .int ze, .int zn, .int zm])), (a3, .inr (2, [.int mc3, .ref q3, .int 2])), (q3, .inl ((g.2.2.1 4), 10, .inr (.inr (.inr (.inr (va_up (va_up f3 0 (some s0)) 1 (some sx))))))), (s0, .inr (10, [.ref sA, .ref sL, .ref sP, .ref sS, .int ea, .int no, .int fu, .int fo, .int sa, .int po, .int ch, .int rb, .int on, .int li, .int sp, .int hu, .int mu]))] rfl rfl ⟨rfl, rfl⟩ (by decide) (by decide) dX11_isMutiny_8 (kz_nar2 (by repeat' first | with_reducible refine kz_if ?_ ?_ | with_reducible exact Or.inl rfl | with_reducible exact Or.inr rfl | with_reducible assumption | exact z_r_X11_isNight _ | exact z_r_X11_isTape _ | exact z_r_X2_canRun _ _ _ _ _ | exact z_r_X8_canSend _ _ _ _ _ | exact z_r_X11_isInsideLine _ _ _ _ | exact z_r_X11_isStranded _ _ _ _ _ | exact z_r_X11_isPerson _))

set_option maxHeartbeats 4000000 in
set_option maxRecDepth 100000 in
theorem m_X11_getPlacet00 (l : Launch) (hl0 : l.stackTraces = false) (g : kG) (h0 : Nat) (a1 : Nat) (a2 : Nat) (a3 : Nat) (a4 : Nat) (a5 : Nat) (zh : Int32) (zf : Int32) (zw : Int32) (ze : Int32) (zn : Int32) (zm : Int32) (q3 : Nat) (mc3 : Int32) (f3 : Nat → Option Nat) (s0 : Nat) (sA : Nat) (sL : Nat) (sP : Nat) (sS : Nat) (ea : Int32) (no : Int32) (fu : Int32) (fo : Int32) (sa : Int32) (po : Int32) (ch : Int32) (rb : Int32) (on : Int32) (li : Int32) (sp : Int32) (hu : Int32) (mu : Int32) (sx : Nat)  : kc l g yX11_getPlace prog_1_method_10_code 4 (some .int) 4 85 0 0 [.ref h0, .int 0, .int 0] [(h0, .inr (13, [.ref a1, .ref a2, .ref a3, .ref a4, .ref a5, .int zh, .int zf, .int zw, .int ze, .int zn, .int zm])), (a3, .inr (2, [.int mc3, .ref q3, .int 2])), (q3, .inl ((g.2.2.1 4), 10, .inr (.inr (.inr (.inr (va_up (va_up f3 0 (some s0)) 1 (some sx))))))), (s0, .inr (10, [.ref sA, .ref sL, .ref sP, .ref sS, .int ea, .int no, .int fu, .int fo, .int sa, .int po, .int ch, .int rb, .int on, .int li, .int sp, .int hu, .int mu]))] (fun v w => (v = some (.int no) ∧ w = [(h0, .inr (13, [.ref a1, .ref a2, .ref a3, .ref a4, .ref a5, .int zh, .int zf, .int zw, .int ze, .int zn, .int zm])), (a3, .inr (2, [.int mc3, .ref q3, .int 2])), (q3, .inl ((g.2.2.1 4), 10, .inr (.inr (.inr (.inr (va_up (va_up f3 0 (some s0)) 1 (some sx))))))), (s0, .inr (10, [.ref sA, .ref sL, .ref sP, .ref sS, .int ea, .int no, .int fu, .int fo, .int sa, .int po, .int ch, .int rb, .int on, .int li, .int sp, .int hu, .int mu]))])) (fun _ _ => False) := by
  refine kbody (by decide) (Nat.le_of_ble_eq_true rfl) ?_
  intro p e s m args below meth c A H K ht G hP hD hA hS ls hl
  have K : KB p s m meth c RX11 "getPlace" prog_1_method_10_code 4 (some .int) := K
  obtain ⟨hx, hb, hml, hown, hlocks, hr, hin⟩ := id K
  have hl : lv_has ls 4 [(0, .ref h0), (1, .int 0), (2, .int 0)] := hl
  refine lv_aload_n hx hb dX11_getPlace_0 rfl (lv_at hl 0 rfl) ?_
  refine lv_iload_n hx hb dX11_getPlace_1 rfl (lv_at hl 1 rfl) ?_
  refine kcallV (wc := [(h0, .inr (13, [.ref a1, .ref a2, .ref a3, .ref a4, .ref a5, .int zh, .int zf, .int zw, .int ze, .int zn, .int zm])), (a3, .inr (2, [.int mc3, .ref q3, .int 2])), (q3, .inl ((g.2.2.1 4), 10, .inr (.inr (.inr (.inr (va_up (va_up f3 0 (some s0)) 1 (some sx))))))), (s0, .inr (10, [.ref sA, .ref sL, .ref sP, .ref sS, .int ea, .int no, .int fu, .int fo, .int sa, .int po, .int ch, .int rb, .int on, .int li, .int sp, .int hu, .int mu]))]) (wr := []) (As := [.int 0]) (rest := []) K G (m_X11_shipAt20 l hl0 g h0 a1 a2 a3 a4 a5 zh zf zw ze zn zm q3 mc3 f3 s0 sA sL sP sS ea no fu fo sa po ch rb on li sp hu mu sx ) hP hD hS hA hl kw_426 kw_427 kw_428 kw_429 kw_63 ydX11_shipAt [0, 1, 2, 3] [] rfl rfl rfl rfl (by decide) (ci := 13) (q0 := 0) rfl rfl rfl rfl rfl (Nat.le_of_ble_eq_true rfl) dX11_getPlace_2 ⟨Nat.le_of_ble_eq_true rfl, Nat.le_of_ble_eq_true rfl⟩ ⟨Nat.le_of_ble_eq_true rfl, Nat.le_of_ble_eq_true rfl⟩ (fun _ _ _ _ _ _ hX _ _ _ _ _ _ => hX.elim) (fun v w1 H locs hQ hP hD hS => ?_)
  obtain ⟨rfl, rfl⟩ := hQ
  have hP : va_P g.1 vwCl [(h0, .inr (13, [.ref a1, .ref a2, .ref a3, .ref a4, .ref a5, .int zh, .int zf, .int zw, .int ze, .int zn, .int zm])), (a3, .inr (2, [.int mc3, .ref q3, .int 2])), (q3, .inl ((g.2.2.1 4), 10, .inr (.inr (.inr (.inr (va_up (va_up f3 0 (some s0)) 1 (some sx))))))), (s0, .inr (10, [.ref sA, .ref sL, .ref sP, .ref sS, .int ea, .int no, .int fu, .int fo, .int sa, .int po, .int ch, .int rb, .int on, .int li, .int sp, .int hu, .int mu]))] H := hP
  have hD : va_D A [(h0, .inr (13, [.ref a1, .ref a2, .ref a3, .ref a4, .ref a5, .int zh, .int zf, .int zw, .int ze, .int zn, .int zm])), (a3, .inr (2, [.int mc3, .ref q3, .int 2])), (q3, .inl ((g.2.2.1 4), 10, .inr (.inr (.inr (.inr (va_up (va_up f3 0 (some s0)) 1 (some sx))))))), (s0, .inr (10, [.ref sA, .ref sL, .ref sP, .ref sS, .int ea, .int no, .int fu, .int fo, .int sa, .int po, .int ch, .int rb, .int on, .int li, .int sp, .int hu, .int mu]))] := hD
  refine W.widen (k := 0) (n := 0) (by decide) (by decide) ?_
  refine W.eq (g2 := F0 m 5 ls [.ref s0]) rfl ?_
  refine lv_astore_n (lv' := [(3, .ref s0), (0, .ref h0), (1, .int 0), (2, .int 0)]) hx hb dX11_getPlace_5 rfl hl (by decide) rfl (fun ls hl => ?_)
  refine lv_iload_n hx hb dX11_getPlace_6 rfl (lv_at hl 3 rfl) ?_
  refine lv_if_eq (tgt := 17) hx hb dX11_getPlace_7 (by decide) (fun _ => ?_) (fun c7_2 => absurd c7_2 (by decide))
  refine lv_aload_n hx hb dX11_getPlace_17 rfl (lv_at hl 0 rfl) ?_
  refine va_get (D := g.1) (ci := 10) (v := .int no) (C := RX8) (T := TX8) (N := 17) hx hb G.ws inX8 hown G.K hP 3 rfl rfl 5 (by decide) (G.w kw_67) (fun _ h9 => h9) rfl dX11_getPlace_18 ?_
  exact kretI K hP hD hS [0, 1, 2, 3] [(h0, .inr (13, [.ref a1, .ref a2, .ref a3, .ref a4, .ref a5, .int zh, .int zf, .int zw, .int ze, .int zn, .int zm])), (a3, .inr (2, [.int mc3, .ref q3, .int 2])), (q3, .inl ((g.2.2.1 4), 10, .inr (.inr (.inr (.inr (va_up (va_up f3 0 (some s0)) 1 (some sx))))))), (s0, .inr (10, [.ref sA, .ref sL, .ref sP, .ref sS, .int ea, .int no, .int fu, .int fo, .int sa, .int po, .int ch, .int rb, .int on, .int li, .int sp, .int hu, .int mu]))] rfl rfl ⟨rfl, rfl⟩ (by decide) (by decide) dX11_getPlace_21

