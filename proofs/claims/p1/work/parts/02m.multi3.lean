/-! new int[n][m][j]: nothing old is touched; what is made counts (a row of mine: the kit has the two-dimensional one, and its proof is followed) -/
def mo3 (c : ClassId) (N h0 w : Nat) : Nat → Cell
  | 0 => { cls := c, slots := Array.replicate N .null, vm := .none }
  | i + 1 => (mo3 c N h0 w i).setSlot i (.ref (h0 + 1 + i * w))
def mf3 (s : State) (c comp c2 : ClassId) (N M J : Nat) (dv : Value) : Nat → State
  | 0 => s.pushCell (mo3 c N s.heap.size (1 + M) 0)
  | i + 1 => (Jvm.Free.Multi.fill (mf3 s c comp c2 N M J dv i) comp c2 M J dv M).setCell s.heap.size (mo3 c N s.heap.size (1 + M) (i + 1))
theorem mo3_facts (c : ClassId) (N h0 w : Nat) : ∀ i, (mo3 c N h0 w i).cls = c ∧ (mo3 c N h0 w i).vm = .none ∧ (mo3 c N h0 w i).slots.size = N
  | 0 => ⟨rfl, rfl, by simp [mo3]⟩
  | i + 1 => by
    obtain ⟨a, b, d⟩ := mo3_facts c N h0 w i
    exact ⟨by simp [mo3, Cell.setSlot, a], by simp [mo3, Cell.setSlot, b], by simp [mo3, Cell.setSlot, d]⟩
theorem mf3_facts (s : State) (c comp c2 : ClassId) (N M J : Nat) (dv : Value) : ∀ i, (mf3 s c comp c2 N M J dv i).heap.size = s.heap.size + 1 + i * (1 + M) ∧ (mf3 s c comp c2 N M J dv i).heap[s.heap.size]? = some (mo3 c N s.heap.size (1 + M) i) ∧
    (mf3 s c comp c2 N M J dv i).vm = s.vm ∧ (mf3 s c comp c2 N M J dv i).slotsUsed = s.slotsUsed + N + i * (M + M * J)
  | 0 => ⟨by simp [mf3], by simp [mf3], rfl, by simp [mf3, mo3]⟩
  | i + 1 => by
    obtain ⟨a, b, d, u⟩ := mf3_facts s c comp c2 N M J dv i
    obtain ⟨fa, -, fd, fu⟩ := Jvm.Free.Multi.fill_facts (mf3 s c comp c2 N M J dv i) comp c2 M J dv M
    have hlt : s.heap.size < (mf3 s c comp c2 N M J dv i).heap.size := by rw [a]; omega
    have hb' : (Jvm.Free.Multi.fill (mf3 s c comp c2 N M J dv i) comp c2 M J dv M).heap[s.heap.size]? = some (mo3 c N s.heap.size (1 + M) i) := by
      rw [Jvm.Free.Multi.fill_old _ _ _ _ _ _ hlt]; exact b
    refine ⟨?_, State.heap_setCell_self hb', ?_, ?_⟩
    · show ((Jvm.Free.Multi.fill (mf3 s c comp c2 N M J dv i) comp c2 M J dv M).setCell s.heap.size (mo3 c N s.heap.size (1 + M) (i + 1))).heap.size = _
      have e1 : ∀ (S : State) (a : Addr) (ce : Cell), (S.setCell a ce).heap.size = S.heap.size := fun S a ce => by simp [State.setCell]
      rw [e1, fa, a, Nat.succ_mul]
      omega
    · show ((Jvm.Free.Multi.fill (mf3 s c comp c2 N M J dv i) comp c2 M J dv M).setCell s.heap.size (mo3 c N s.heap.size (1 + M) (i + 1))).vm = _
      have e1 : ∀ (S : State) (a : Addr) (ce : Cell), (S.setCell a ce).vm = S.vm := fun S a ce => by simp
      rw [e1, fd, d]
    · show ((Jvm.Free.Multi.fill (mf3 s c comp c2 N M J dv i) comp c2 M J dv M).setCell s.heap.size (mo3 c N s.heap.size (1 + M) (i + 1))).slotsUsed = _
      have e1 : ∀ (S : State) (a : Addr) (ce : Cell), (S.setCell a ce).slotsUsed = S.slotsUsed := fun S a ce => by simp
      rw [e1, fu, u, Nat.succ_mul]
      omega
theorem mf3_setTop (s : State) (f : JFrame) (c comp c2 : ClassId) (N M J : Nat) (dv : Value) : ∀ i, mf3 (s.setTop f) c comp c2 N M J dv i = (mf3 s c comp c2 N M J dv i).setTop f
  | 0 => rfl
  | i + 1 => by simp only [mf3, mf3_setTop s f c comp c2 N M J dv i, Jvm.Free.Multi.fill_setTop, State.heap_setTop, State.setCell_setTop]
theorem mf3_old (s : State) (c comp c2 : ClassId) (N M J : Nat) (dv : Value) {a : Addr} (ha : a < s.heap.size) : ∀ i, (mf3 s c comp c2 N M J dv i).heap[a]? = s.heap[a]?
  | 0 => State.heap_pushCell_of_lt _ _ ha
  | i + 1 => by
    have f1 := (mf3_facts s c comp c2 N M J dv i).1
    show ((Jvm.Free.Multi.fill (mf3 s c comp c2 N M J dv i) comp c2 M J dv M).setCell s.heap.size _).heap[a]? = _
    have h9 : a < (mf3 s c comp c2 N M J dv i).heap.size := Nat.lt_of_lt_of_le ha (by rw [f1]; omega)
    rw [State.heap_setCell_other (Nat.ne_of_gt ha), Jvm.Free.Multi.fill_old _ _ _ _ _ _ h9]
    exact mf3_old s c comp c2 N M J dv ha i
theorem mwp3 {E : CtlPost} {e : Env} {d : Bool} {acts : List Action} {s : State} {c comp c2 cc : ClassId} {k kc k2 : Class} {t0 t1 type : FieldType} {n m j : Int32} (hk : s.vm.classes[c]? = some k) (hkind : k.kind = .array comp t0) (href : t0.isReference = true)
    (hkc : s.vm.classes[comp]? = some kc) (hkindc : kc.kind = .array c2 t1) (href1 : t1.isReference = true) (hk2 : s.vm.classes[c2]? = some k2) (hkind2 : k2.kind = .array cc type) (hn : ¬ n < 0) (hm : ¬ m < 0) (hj : ¬ j < 0)
    (hl1 : ¬ n.toNatClampNeg > e.platform.arrayLengthLimit) (hh1 : ¬ n.toNatClampNeg * componentBytes t0 > e.platform.maxHeapBytes)
    (hl2 : ¬ m.toNatClampNeg > e.platform.arrayLengthLimit) (hh2 : ¬ m.toNatClampNeg * componentBytes t1 > e.platform.maxHeapBytes)
    (hl3 : ¬ j.toNatClampNeg > e.platform.arrayLengthLimit) (hh3 : ¬ j.toNatClampNeg * componentBytes type > e.platform.maxHeapBytes)
    (hdf : fits type (defaultValue type) = true) (hdd : (defaultValue type).isDefault = true)
    (hc : s.heap.size + 1 + n.toNatClampNeg * (1 + m.toNatClampNeg) ≤ e.platform.maxCells) (hs : s.slotsUsed + n.toNatClampNeg + n.toNatClampNeg * (m.toNatClampNeg + m.toNatClampNeg * j.toNatClampNeg) ≤ e.platform.maxSlots)
    {Q : Addr → Pre} (hq : ∀ d' acts', Q s.heap.size d' acts' (mf3 s c comp c2 n.toNatClampNeg m.toNatClampNeg j.toNatClampNeg (defaultValue type) n.toNatClampNeg)) :
    wp (multianewarray.make c [n, m, j]) Q E e d acts s := by
  have hfind : ([m, j].find? (· < 0)) = none := by simp [hm, hj]
  rw [multianewarray.make]
  simp only [wp_bind', W.ite, hn, if_false, wp_pure', W.theClass, hk, hkind, Option.some.injEq, exists_eq_left']
  refine Jvm.Free.Multi.wp_newArray hk hkind hl1 hh1 (Jvm.Free.Multi.refFits href _ (Or.inl rfl)) rfl (by omega) (by omega) ?_
  simp only [hfind]
  rw [ite_self, wp_bind', Std.Legacy.Range.forIn_eq_forIn_range']
  have hsz : ([:n.toNatClampNeg] : Std.Legacy.Range).size = n.toNatClampNeg := by simp [Std.Legacy.Range.size]
  rw [hsz]
  show wp (forIn (List.range' 0 n.toNatClampNeg 1) PUnit.unit _) _ E e d acts _
  refine wp_forIn_inv (fun rest s' => ∃ i, i ≤ n.toNatClampNeg ∧ rest = List.range' i (n.toNatClampNeg - i) ∧ s' = mf3 s c comp c2 n.toNatClampNeg m.toNatClampNeg j.toNatClampNeg (defaultValue type) i) _ _ ⟨0, Nat.zero_le _, rfl, rfl⟩ ?_ ?_
  · rintro x rest s' d' acts' Q' ⟨i, hi, hl, rfl⟩ hnext
    have hlt : i < n.toNatClampNeg := by
      rcases Nat.lt_or_ge i n.toNatClampNeg with h | h
      · exact h
      · rw [show n.toNatClampNeg - i = 0 from by omega] at hl; simp at hl
    obtain ⟨rfl, hrest⟩ : x = i ∧ rest = List.range' (i + 1) (n.toNatClampNeg - (i + 1)) := by
      rw [show n.toNatClampNeg - i = (n.toNatClampNeg - (i + 1)) + 1 from by omega, List.range'_succ] at hl
      exact ⟨(List.cons.inj hl).1, (List.cons.inj hl).2⟩
    obtain ⟨f1, f2, f3, f4⟩ := mf3_facts s c comp c2 n.toNatClampNeg m.toNatClampNeg j.toNatClampNeg (defaultValue type) x
    obtain ⟨o1, o2, o3⟩ := mo3_facts c n.toNatClampNeg s.heap.size (1 + m.toNatClampNeg) x
    have hmul : x * (1 + m.toNatClampNeg) + (1 + m.toNatClampNeg) ≤ n.toNatClampNeg * (1 + m.toNatClampNeg) := by
      have := Nat.mul_le_mul_right (1 + m.toNatClampNeg) (show x + 1 ≤ n.toNatClampNeg from hlt)
      rw [Nat.succ_mul] at this; exact this
    have hmul2 : x * (m.toNatClampNeg + m.toNatClampNeg * j.toNatClampNeg) + (m.toNatClampNeg + m.toNatClampNeg * j.toNatClampNeg) ≤ n.toNatClampNeg * (m.toNatClampNeg + m.toNatClampNeg * j.toNatClampNeg) := by
      have := Nat.mul_le_mul_right (m.toNatClampNeg + m.toNatClampNeg * j.toNatClampNeg) (show x + 1 ≤ n.toNatClampNeg from hlt)
      rw [Nat.succ_mul] at this; exact this
    simp only [wp_bind']
    refine Jvm.Free.Multi.wp_make2 (by rw [f3]; exact hkc) hkindc href1 (by rw [f3]; exact hk2) hkind2 hm hj hl2 hh2 hl3 hh3 hdf hdd (by rw [f1]; omega) (by rw [f4]; omega) (fun d2 acts2 => ?_)
    have hlt0 : s.heap.size < (mf3 s c comp c2 n.toNatClampNeg m.toNatClampNeg j.toNatClampNeg (defaultValue type) x).heap.size := by rw [f1]; omega
    obtain ⟨-, -, g3, -⟩ := Jvm.Free.Multi.fill_facts (mf3 s c comp c2 n.toNatClampNeg m.toNatClampNeg j.toNatClampNeg (defaultValue type) x) comp c2 m.toNatClampNeg j.toNatClampNeg (defaultValue type) m.toNatClampNeg
    simp only [wp_bind', W.writeLoc, wp_pure']
    refine ⟨mo3 c n.toNatClampNeg s.heap.size (1 + m.toNatClampNeg) x, by rw [Jvm.Free.Multi.fill_old _ _ _ _ _ _ hlt0]; exact f2, by rw [o2]; simp, by rw [o3]; exact hlt, ?_, hnext _ _ _ ⟨x + 1, hlt, hrest, ?_⟩⟩
    · rw [o1, o2]
      simp [State.fitsSlot, State.slotType?, g3, f3, hk, hkind, Jvm.Free.Multi.refFits href _ (Or.inr ⟨_, rfl⟩)]
    · rw [f1]; rfl
  · rintro s' d' acts' ⟨i, hi, hl, rfl⟩
    have hiN : i = n.toNatClampNeg := by
      rcases Nat.lt_or_ge i n.toNatClampNeg with h | h
      · rw [show n.toNatClampNeg - i = (n.toNatClampNeg - (i + 1)) + 1 from by omega, List.range'_succ] at hl; cases hl
      · omega
    subst hiN
    simp only [wp_pure']
    exact hq _ _
theorem mstand3 {p : Program} {l : Launch} {e : Env} {R : Room} {s : State} {m : MethodId} {args : Array Value} {below : List Frame} {meth : Method} {c : Code} {T : State} {locs : List Loc} {cells slots : Nat} (X : Stand p l e R s m args below meth c T locs cells slots) (cA comp c2 : ClassId) (N M J : Nat) (dv : Value) :
    ∀ i, ∃ L : List Loc, (∀ x ∈ L, T.heap.size ≤ x.base) ∧ Stand p l e R s m args below meth c (mf3 T cA comp c2 N M J dv i) (locs ++ L) (cells + 1 + i * (1 + M)) (slots + N + i * (M + M * J))
  | 0 => by
    have h := X.pushed (mo3 cA N T.heap.size (1 + M) 0)
    rw [(mo3_facts cA N T.heap.size (1 + M) 0).2.2] at h
    exact ⟨[], (fun x hx => absurd hx List.not_mem_nil), by simpa [mf3] using h⟩
  | i + 1 => by
    obtain ⟨L, hL, Xi⟩ := mstand3 X cA comp c2 N M J dv i
    obtain ⟨f1, f2, f3, f4⟩ := mf3_facts T cA comp c2 N M J dv i
    have hlt0 : T.heap.size < (mf3 T cA comp c2 N M J dv i).heap.size := by rw [f1]; omega
    have hcell : (Jvm.Free.Multi.fill (mf3 T cA comp c2 N M J dv i) comp c2 M J dv M).heap[T.heap.size]? = some (mo3 cA N T.heap.size (1 + M) i) := by rw [Jvm.Free.Multi.fill_old _ _ _ _ _ _ hlt0]; exact f2
    have h := (Stand.filled Xi comp c2 M J dv M).stored hcell i (.ref (T.heap.size + 1 + i * (1 + M)))
    refine ⟨L ++ ((List.range M).map fun j => (⟨(mf3 T cA comp c2 N M J dv i).heap.size, j⟩ : Loc)) ++ [⟨T.heap.size, i⟩], ?_, ?_⟩
    · intro x hx
      rcases List.mem_append.mp hx with hx | hx
      · rcases List.mem_append.mp hx with hx | hx
        · exact hL x hx
        · obtain ⟨q, -, rfl⟩ := List.mem_map.mp hx
          exact Nat.le_of_lt hlt0
      · rw [List.mem_singleton.mp hx]; exact Nat.le_refl _
    · have e2 : cells + 1 + (i + 1) * (1 + M) = cells + 1 + i * (1 + M) + 1 + M := by rw [Nat.succ_mul]; omega
      have e3 : slots + N + (i + 1) * (M + M * J) = slots + N + i * (M + M * J) + M + M * J := by rw [Nat.succ_mul]; omega
      rw [e2, e3, ← List.append_assoc, ← List.append_assoc]
      exact h
theorem kmna3 {p : Program} {l : Launch} {e : Env} {R : Room} {s : State} {m : MethodId} {args : Array Value} {below : List Frame} {meth : Method} {c : Code} {H : Heap} {locs : List Loc} {cells slots : Nat} {Q : State → Prop} {g : kG} {A : Nat → Prop} {own : String} {cc : ByteArray} {ws : va_W} {pc : Nat} {ls : Array Slot} {rest : List Value} {index N M J : Nat} {n k j : Int32} (hx : p.tables.exec = Jvm.exec) (hb : c.code = cc) (hown : s.vm.findClass own = some m.cls)
    (hcl : (Cond.classLink own index "[[[I").before args s = true) (ho1 : (Cond.arrayOver (.array (.array .int))).before args s = true) (ho2 : (Cond.arrayOver (.array .int)).before args s = true) (harr : (Cond.arrayClass .int).before args s = true)
    (hP : va_P g.1 vwCl ws H) (hD : va_D A ws) (hS : va_S A s.heap H locs) (hn : ¬ n < 0) (hk : ¬ k < 0) (hj : ¬ j < 0) (hN : n.toNatClampNeg = N) (hM : k.toNatClampNeg = M) (hJ : j.toNatClampNeg = J) (hb1 : N ≤ 1000) (hb2 : M ≤ 1000) (hb3 : J ≤ 1000)
    (hcells : cells + (1 + N * (1 + M)) ≤ R.cells) (hslots : slots + (N + N * (M + M * J)) ≤ R.slots) (hdg : decode cc pc = .ok (.multianewarray index 3, 4))
    (kk : ∀ (q : Nat) (H1 : Heap), va_P g.1 vwCl ws H1 → va_D A ws → va_S A s.heap H1 locs → W p l e R s m args below meth c H1 locs (cells + (1 + N * (1 + M))) (slots + (N + N * (M + M * J))) Q (F0 m (pc + 4) ls (.ref q :: rest))) : W p l e R s m args below meth c H locs cells slots Q (F0 m pc ls (.int j :: .int k :: .int n :: rest)) := by
  subst hN; subst hM; subst hJ
  intro T hT X
  have hpl : e.platform.magicAccessors = ({} : Platform).magicAccessors := by rw [X.admits.platform]
  obtain ⟨comp, cA, kA, hcomp, hkA, hkindA, hnameA⟩ := Cond.arrayOver_specA ho1
  obtain ⟨c2, cB, kB, hc2, hkB, hkindB, hnameB⟩ := Cond.arrayOver_specA ho2
  obtain ⟨c2', kC, c3, hc2', hkC, hkindC⟩ := Cond.arrayClass_spec harr
  have e1 : cB = comp := Option.some.inj (hnameB.symm.trans hcomp)
  subst e1
  have e2 : c2' = c2 := Option.some.inj (hc2'.symm.trans hc2)
  subst e2
  obtain ⟨c0, hfc0, hcl0⟩ := Cond.classLink_spec hown hcl e.platform hpl
  cases hnameA.symm.trans hfc0
  obtain ⟨hg₁, hwarm₁, hready₁⟩ := State.classEntry (e := e) X.warmed hcl0
  have hmc : (F0 m pc ls (.int j :: .int k :: .int n :: rest)).method = m := rfl
  generalize T.vm.noted m.cls index (.cls cA) = vm₁ at hg₁ hwarm₁ hready₁
  have hal : s.vm.Alike vm₁ := hwarm₁.alike
  obtain ⟨kA₁, hkA₁, heA⟩ := hal.2.2 _ _ hkA
  obtain ⟨kB₁, hkB₁, heB⟩ := hal.2.2 _ _ hkB
  obtain ⟨kC₁, hkC₁, heC⟩ := hal.2.2 _ _ hkC
  have X₁ := X.noted hwarm₁
  obtain ⟨hr1, hr2⟩ := X.roomAbove hcells hslots
  obtain ⟨L, hL, XF⟩ := mstand3 X₁ cA cB c2' n.toNatClampNeg k.toNatClampNeg j.toNatClampNeg (defaultValue .int) n.toNatClampNeg
  have XD := XF.dropFresh (fun x hx => Nat.le_trans X.heapGrown (hL x hx))
  obtain ⟨f1, -, f3, -⟩ := mf3_facts (T.setVm vm₁) cA cB c2' n.toNatClampNeg k.toNatClampNeg j.toNatClampNeg (defaultValue .int) n.toNatClampNeg
  have fo : ∀ a, a < H.size → (mf3 (T.setVm vm₁) cA cB c2' n.toNatClampNeg k.toNatClampNeg j.toNatClampNeg (defaultValue .int) n.toNatClampNeg).heap[a]? = H[a]? := by
    intro a ha
    rw [← hT] at ha ⊢
    exact mf3_old (T.setVm vm₁) cA cB c2' n.toNatClampNeg k.toNatClampNeg j.toNatClampNeg (defaultValue .int) ha n.toNatClampNeg
  have hz : H.size ≤ (mf3 (T.setVm vm₁) cA cB c2' n.toNatClampNeg k.toNatClampNeg j.toNatClampNeg (defaultValue .int) n.toNatClampNeg).heap.size := by
    rw [f1, ← hT]; show T.heap.size ≤ T.heap.size + 1 + _; omega
  have eC : cells + (1 + n.toNatClampNeg * (1 + k.toNatClampNeg)) = cells + 1 + n.toNatClampNeg * (1 + k.toNatClampNeg) := by omega
  have eSl : slots + (n.toNatClampNeg + n.toNatClampNeg * (k.toNatClampNeg + k.toNatClampNeg * j.toNatClampNeg)) = slots + n.toNatClampNeg + n.toNatClampNeg * (k.toNatClampNeg + k.toNatClampNeg * j.toNatClampNeg) := by omega
  have hK := kk T.heap.size _ (hP.kept (fun q x hx9 => fo x.1 ((hP q x hx9).lt))) hD ⟨Nat.le_trans hS.1 hz, fun q h1 h2 => (fo q (Nat.lt_of_lt_of_le h1 hS.1)).trans (hS.2.1 q h1 h2), hS.2.2⟩
  rw [eC, eSl] at hK
  obtain ⟨t, a1, b1⟩ := hK _ rfl XD
  refine ⟨t, ?_, b1⟩
  have hl1 : ¬ n.toNatClampNeg > e.platform.arrayLengthLimit := by rw [Launch.admits_arrayLengthLimit X.admits]; omega
  have hh1 : ¬ n.toNatClampNeg * componentBytes (.array (.array .int)) > e.platform.maxHeapBytes := by
    rw [Launch.admits_maxHeapBytes X.admits]; show ¬ n.toNatClampNeg * 4 > 536870912; omega
  have hl2 : ¬ k.toNatClampNeg > e.platform.arrayLengthLimit := by rw [Launch.admits_arrayLengthLimit X.admits]; omega
  have hh2 : ¬ k.toNatClampNeg * componentBytes (.array .int) > e.platform.maxHeapBytes := by rw [Launch.admits_maxHeapBytes X.admits]; show ¬ k.toNatClampNeg * 4 > 536870912; omega
  have hl3 : ¬ j.toNatClampNeg > e.platform.arrayLengthLimit := by rw [Launch.admits_arrayLengthLimit X.admits]; omega
  have hh3 : ¬ j.toNatClampNeg * componentBytes .int > e.platform.maxHeapBytes := by rw [Launch.admits_maxHeapBytes X.admits]; show ¬ j.toNatClampNeg * 4 > 536870912; omega
  have hdg' : decode c.code (F0 m pc ls (.int j :: .int k :: .int n :: rest)).pc = .ok (.multianewarray index 3, 4) := by rw [hb]; exact hdg
  jvm_step X.here [hx, hdg']
  simp only [multianewarray.sem, wp_bind', W.resolveClassAt_links (State.method?_setTop (F0 m pc ls (.int j :: .int k :: .int n :: rest)) X.here.top) hg₁]
  rw [W.popN, if_neg (by decide)]
  refine ⟨F0 m pc ls (.int j :: .int k :: .int n :: rest), State.topJava?_setTop' (s := T.setVm vm₁) (F0 m pc ls (.int j :: .int k :: .int n :: rest)) X.here.top, [.int n, .int k, .int j], rest, rfl, rfl, ?_⟩
  simp only [List.mapM_cons, List.mapM_nil, wp_bind', wp_pure']
  refine mwp3 (k := kA₁) (kc := kB₁) (k2 := kC₁) (comp := cB) (c2 := c2') (cc := c3) (t0 := .array (.array .int)) (t1 := .array .int) (type := .int) hkA₁ (by rw [heA]; exact hkindA) rfl hkB₁ (by rw [heB]; exact hkindB) rfl hkC₁ (by rw [heC]; exact hkindC) hn hk hj hl1 hh1 hl2 hh2 hl3 hh3 rfl rfl (by show T.heap.size + 1 + _ ≤ _; omega) (by show T.slotsUsed + _ + _ ≤ _; omega) (fun d' acts' => ?_)
  have eS : ((T.setTop (F0 m pc ls (.int j :: .int k :: .int n :: rest))).setVm vm₁).setTop (F0 m pc ls rest) = (T.setVm vm₁).setTop (F0 m pc ls rest) := by
    show ((T.setVm vm₁).setTop (F0 m pc ls (.int j :: .int k :: .int n :: rest))).setTop _ = _
    rw [State.setTop_setTop]
  rw [eS, mf3_setTop]
  simp only [wp_bind', W.mark, W.pushRef, State.topJava?_setTop' _ XD.here.top, Option.some.injEq, exists_eq_left', State.setTop_setTop, State.heap_setTop]
  intro acts
  simp [jvm, XD.here.top]
  exact a1
