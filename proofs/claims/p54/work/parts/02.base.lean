def kstr : List (String × Nat × String) := [("GalleonWave", 80, "there is no such way"), ("GalleonWave", 124, "there is no such bottom"), ("GalleonWave", 142, "the anchor is down, or the ship is aground"), ("GalleonWave", 191, "nobody is aboard"), ("GalleonWave", 216, "there is no such kind"), ("GalleonWave", 245, "that one is aboard, or goes with the tender of another land"), ("GalleonWave", 250, "the wind is too strong"), ("GalleonWave", 287, "the ship was not on the air"), ("GalleonWave", 302, "more than 20 were sold on this day"), ("GalleonWave", 385, "there are no ships"), ("GalleonWave", 403, "a number is out of range"), ("GalleonWave", 407, "there are as many as can be"), ("GalleonWave", 412, "there is nothing of that number"), ("GalleonWaveLaw", 165, "smr"), ("GalleonWaveLaw", 183, "nesw")]
def knc : List (String × String) := [("java/util/NoSuchElementException", "java/lang/IndexOutOfBoundsException")]
abbrev kWAYS : Nat := 183
abbrev kBOTS : Nat := 165
/-! ===== BEGIN a constructor that throws (launches without stack traces) ===== -/
section VXIA
variable {p : Program} {l : Launch} {e : Env} {R : Room} {s : State} {m : MethodId} {args : Array Value} {below : List Frame} {meth : Method} {c : Code} {T : State} {locs : List Loc} {cells slots : Nat}
theorem vx_callI (X : Stand p l e R s m args below meth c T locs cells slots) (hexec : p.tables.exec = Jvm.exec) {own : String} {index : Nat} {y : MethodName} {bytes : ByteArray} {maxL : Nat}
    (hown : s.vm.findClass own = some m.cls) (hy1 : y.name = "<init>") (hlink : (Cond.methodLink own index y).before args s = true) (hinst : (Cond.instanceMethod y).before args s = true)
    (hcode : (Cond.code y bytes maxL none).before args s = true) (hy : y.cls ≠ "java/lang/invoke/MethodHandle" ∧ y.cls ≠ "java/lang/invoke/VarHandle")
    {W9 : Nat} {Pre : Pt → Array Value → Prop} {Post : Pt → Array Value → Option Value → Pt → Prop} {PostX : Pt → Array Value → Addr → Pt → Prop} (hK : vx_Back l R p e below s args y 3 W9 Pre Post PostX)
    {g : JFrame} (hg : g.method = m) (hsize : g.locals.size = c.maxLocals) {a : Addr} {argsL rest : List Value} (hlen : ∀ sig, parseMethodDescriptor y.desc = some sig → argsL.length = sig.parameters.length)
    (hstack : g.stack = argsL.reverse ++ .ref a :: rest) (hW : 2 * g.monitorRoom + (rest.map fun v => v.category).sum ≤ W9) (hdg : decode c.code g.pc = .ok (.invokespecial index, 3))
    (hpre : ∀ vm₁, s.WarmedH vm₁ → Pre ⟨T.setVm vm₁, locs, cells, slots⟩ (Value.ref a :: argsL).toArray) :
    (∃ (v : Option Value) (vm₁ : Vm) (B : Pt), s.WarmedH vm₁ ∧ Stand p l e R s m args below meth c B.U B.locs B.cells B.slots ∧ Post ⟨T.setVm vm₁, locs, cells, slots⟩ (Value.ref a :: argsL).toArray v B ∧
      ∀ target, Steps p.tables e below (B.U.setTop { g with pc := g.pc + 3, stack := v.toList ++ rest }) target → Steps p.tables e below (T.setTop g) target) ∨
    (∃ (q : Addr) (vm₁ : Vm) (B : Pt), s.WarmedH vm₁ ∧ Stand p l e R s m args below meth c B.U B.locs B.cells B.slots ∧ PostX ⟨T.setVm vm₁, locs, cells, slots⟩ (Value.ref a :: argsL).toArray q B ∧
      Steps p.tables e below (T.setTop g) ((B.U.setTop { g with stack := rest }).pushFrame (.throwing q))) := by
  subst hg
  have hpl : e.platform.magicAccessors = ({} : Platform).magicAccessors := by rw [X.admits.platform]
  obtain ⟨mk, methM, cM, kP, vm₁, hnamed, hmethM, hcodeM, -, hlocalsM, -, hkP, -, hW₁, hstep₁⟩ := Steps.initColdArgs (e := e) X.here hexec X.warmed hpl hown hy1 hy hlink hinst hcode (f := g) rfl hlen hstack hdg
  have X₁ := X.noted hW₁
  rcases hK g.method meth c ⟨T.setVm vm₁, locs, cells, slots⟩ { g with stack := rest } (.invokespecial index) mk (Value.ref a :: argsL).toArray X₁ rfl hsize hdg hW (X₁.named hnamed) (hpre vm₁ X₁.warmed) with ⟨v, B, X', hpost, hsteps⟩ | ⟨q, B, X', hpost, hsteps⟩
  · exact Or.inl ⟨v, vm₁, B, X₁.warmed, X', hpost, fun target h => hstep₁ _ fun acts => by rw [doInvoke_state]; exact hsteps.trans h⟩
  · exact Or.inr ⟨q, vm₁, B, X₁.warmed, X', hpost, hstep₁ _ fun acts => by rw [doInvoke_state]; exact hsteps⟩
end VXIA
section VXIB
variable {p : Program} {l : Launch} {e : Env} {R : Room} {s : State} {m : MethodId} {args : Array Value} {below : List Frame} {meth : Method} {c : Code} {H : Heap} {locs : List Loc} {cells slots : Nat}
variable {y : MethodName} {bytes cc : ByteArray} {maxL nL mc ms n index : Nat} {ret : Option FieldType} {ws : List Cond} {rm : Room} {Pc : Array Value → State → Prop} {Qc : Array Value → State → Outcome → State → Prop} {XC : String → State → State → Prop} {free : Addr → Prop} {Ts : List Cond} {own C : String} {b : Addr} {As rest : List Value} {g : JFrame}
theorem vx_runI (S : CallFix p m c cc nL s args Ts own) (hM : vx_Met l y ws rm Pc Qc XC mc ms free) (cw : CallB R s args own index y bytes maxL none ws rm mc ms n ∧ y.name = "<init>" ∧ (Cond.instanceMethod y).before args s = true) (hp : PreS s H Pc (.ref b :: As))
    (hg : g.method = m) (hn : As.length = n) (hsize : g.locals.size = nL) (hstack : g.stack = As.reverse ++ .ref b :: rest) (hW : 2 * g.monitorRoom + (rest.map fun v => v.category).sum ≤ 8) (hdg : decode cc g.pc = .ok (.invokespecial index, 3)) (hf : cells + mc ≤ R.cells ∧ slots + ms ≤ R.slots) :
    vx_Run p l e R s m args below meth c H locs cells slots mc ms g rest (Qc (Value.ref b :: As).toArray) XC free := by
  have hK : vx_Back l R p e below s args y 3 8 (PreOf R mc ms Pc) (PostOf Qc mc ms free) (vx_Post XC mc ms free) := vx_callBack cw.1 hM hp.1
  obtain ⟨⟨-, -, -, -, -, -, hcode, -, hy, hlen, hl⟩, hy1, hin⟩ := cw
  obtain ⟨hx, hb, hml, ho, -⟩ := S
  have hPc := hp.2
  intro T hT X
  rcases vx_callI X hx (bytes := bytes) (maxL := maxL) ho hy1 hl hin hcode hy hK hg (hsize.trans hml.symm) (a := b) (argsL := As) (rest := rest) (fun sig h => hn.trans (hlen sig h)) hstack hW (by rw [hb]; exact hdg)
    (fun vm₁ hW₁ => ⟨hf.1, hf.2, hPc (T.setVm vm₁) hT hW₁⟩) with ⟨v, vm₁, ⟨U', l2, c2, s2⟩, hW₁, X', ⟨g', mk, t, L, e1, e2, hq, h1, hL, h2, h3⟩, st⟩ | ⟨q, vm₁, ⟨U', l2, c2, s2⟩, hW₁, X', ⟨g', mk, t, L, E, ce, e1, e2, hq, hce, hcv, hcl, h1, hL, h2, h3⟩, st⟩
  · dsimp only [Pt.U, Pt.locs, Pt.cells, Pt.slots] at X' e1 e2 h1 h2 h3 st
    subst h1; subst h2; subst h3
    exact Or.inl ⟨v, (T.setVm vm₁).calling g' mk (Value.ref b :: As).toArray, t, U', L, hT, X', hL, e1, e2, hq, st⟩
  · dsimp only [Pt.U, Pt.locs, Pt.cells, Pt.slots] at X' e1 e2 h1 h2 h3 st hcl
    subst h1; subst h2; subst h3
    exact Or.inr ⟨q, (T.setVm vm₁).calling g' mk (Value.ref b :: As).toArray, t, U', L, E, ce, hT, X', hL, e1, e2, hq, hce, hcv, vx_cls hW₁ hcl, st⟩
end VXIB
/-! ===== END ===== -/
/-! MY LAYER: one environment, one form of contract, one row a call -/
def kok : Cond → Bool
  | .castable _ _ => true
  | .declares _ => true
  | .methodLinkNest _ _ _ _ => true
  | w => goodWord w
def kw : List Cond := lw_tbl.filter kok
theorem kw_in {w : Cond} (h : w ∈ lw_tbl) (hk : kok w = true) : w ∈ kw := List.mem_filter.mpr ⟨h, hk⟩
theorem kw_tbl {w : Cond} (h : w ∈ kw) : w ∈ lw_tbl := (List.mem_filter.mp h).1
theorem kok_split {w : Cond} (h : kok w = true) : goodWord w = true ∨ (∃ C T, w = .castable C T) ∨ (∃ x, w = .declares x) ∨ ∃ a i x h, w = .methodLinkNest a i x h := by
  cases w <;> first | exact Or.inr (Or.inl ⟨_, _, rfl⟩) | exact Or.inr (Or.inr (Or.inl ⟨_, rfl⟩)) | exact Or.inr (Or.inr (Or.inr ⟨_, _, _, _, rfl⟩)) | exact Or.inl h
theorem kw_moved {s U : State} (hW : s.WarmedH U.vm) (h : ∀ w ∈ kw, w.before #[] s = true) : ∀ w ∈ kw, w.before #[] U = true := by
  intro w hw
  rcases kok_split (List.mem_filter.mp hw).2 with hk | ⟨C, T, rfl⟩ | ⟨x, rfl⟩ | ⟨a9, i9, x, h9, rfl⟩
  · exact word_at hW (good_of_word hk) (h _ hw)
  · exact va_Nw.warmC hW (h _ hw)
  · exact va_Nw.warmD hW (h _ hw)
  · exact va_Nw.warmM hW (h _ hw)
theorem kw_args {s : State} {args : Array Value} (h : ∀ w ∈ kw, w.before #[] s = true) : ∀ w ∈ kw, w.before args s = true := by
  intro w hw
  rcases kok_split (List.mem_filter.mp hw).2 with hk | ⟨C, T, rfl⟩ | ⟨x, rfl⟩ | ⟨a9, i9, x, h9, rfl⟩
  · exact word_at (State.WarmedH.refl s) (good_of_word hk) (h _ hw)
  · exact va_tabs rfl rfl (h _ hw)
  · exact va_tabs rfl rfl (h _ hw)
  · exact va_tabs rfl rfl (h _ hw)
theorem kw_args' {s : State} {args : Array Value} (h : ∀ w ∈ lw_tbl, w.before args s = true) : ∀ w ∈ kw, w.before #[] s = true := by
  intro w hw
  rcases kok_split (List.mem_filter.mp hw).2 with hk | ⟨C, T, rfl⟩ | ⟨x, rfl⟩ | ⟨a9, i9, x, h9, rfl⟩
  · exact word_at (State.WarmedH.refl s) (good_of_word hk) (h _ (kw_tbl hw))
  · exact va_tabs rfl rfl (h _ (kw_tbl hw))
  · exact va_tabs rfl rfl (h _ (kw_tbl hw))
  · exact va_tabs rfl rfl (h _ (kw_tbl hw))
/-- the launch's numbers: classes, slots; the empty array of ArrayList; the classes of arrays -/
abbrev kG : Type := va_G × Nat × (Nat → ClassId) × (Nat → Nat) × (Nat → Nat)
abbrev kty (g : kG) : List (ClassId × FieldType) := [(g.2.2.1 0, .int), (g.2.2.1 1, .byte), (g.2.2.1 2, .boolean), (g.2.2.1 3, .byte), (g.2.2.1 4, .object "java/lang/Object")]
abbrev kE : String := "java/util/ArrayList"
/-- the empty table, and the script -/
def kTT (g : kG) (A : Nat → Prop) (U : State) (H : Heap) : Prop := va_T (.object "java/lang/Object") g.2.1 0 (fun _ => .null) A U H ∧ ∃ (L : Nat) (xs : Nat → Int32), L ≤ 260 ∧ va_T .int (g.2.2.2.1 2) L (fun i => .int (xs i)) A U H ∧ vx_Zq "jdk/internal/util/Preconditions" "SIOOBE_FORMATTER" "Ljava/util/function/BiFunction;" A U H
theorem kTT.moved {g : kG} {A : Nat → Prop} {u U : State} {H : Heap} (hvm : u.vm.Alike U.vm) (h : kTT g A u H) : kTT g A U H := by
  obtain ⟨h1, L, xs, hL, h2, h3⟩ := h
  exact ⟨va_T.moved hvm h1, L, xs, hL, va_T.moved hvm h2, vx_Zq.moved hvm h3⟩
theorem kTT.kept {g : kG} {A : Nat → Prop} {U : State} {H H1 : Heap} (h : kTT g A U H) (hq : ∀ a : Nat, a < H.size → ¬ A a → H1[a]? = H[a]?) : kTT g A U H1 := by
  obtain ⟨h1, L, xs, hL, h2, h3⟩ := h
  exact ⟨h1.kept hq, L, xs, hL, h2.kept hq, h3.kept hq⟩
theorem kTT.narrow {g : kG} {A B : Nat → Prop} {U : State} {H : Heap} (h : kTT g A U H) (hAB : ∀ q, B q → A q) : kTT g B U H := by
  obtain ⟨h1, L, xs, hL, h2, h3⟩ := h
  exact ⟨h1.narrow hAB, L, xs, hL, h2.narrow hAB, h3.narrow hAB⟩
/-- what every method finds: the tables' words, the statics, outside of the cells A that it may write -/
def GG (g : kG) (A : Nat → Prop) (U : State) (H : Heap) : Prop :=
  va_K g.1 vwCl (kty g) U ∧ (∀ w ∈ kw, w.before #[] U = true) ∧ (∀ q ∈ kstr, ∃ a, vk_R q.1 q.2.1 q.2.2 a U) ∧ (∀ q ∈ knc, va_Nc q.1 q.2 U) ∧ va_AO "java/lang/Object" U ∧ (va_AOA .int U ∧ va_AOA .boolean U ∧ va_AOA (.array .int) U) ∧ (vk_S 2 [4, 3] [[110, 101, 115, 119], [115, 109, 114]] g.2.2.2.1 g.2.2.2.2 A U H ∧ va_Z "java/lang/String" "COMPACT_STRINGS" "Z" (.int 1) A U H ∧ vk_R "GalleonWaveLaw" kWAYS "nesw" (g.2.2.2.1 0) U ∧ vk_R "GalleonWaveLaw" kBOTS "smr" (g.2.2.2.1 1) U) ∧
  va_Z kE "DEFAULTCAPACITY_EMPTY_ELEMENTDATA" "[Ljava/lang/Object;" (.ref g.2.1) A U H ∧ kTT g A U H ∧
  vx_Zq Bundle.tN "UNASSIGNED_STACK" Bundle.steD A U H ∧ vx_Zq Bundle.tN "SUPPRESSED_SENTINEL" Bundle.listD A U H
theorem GG.K {g A U H} (h : GG g A U H) : va_K g.1 vwCl (kty g) U := h.1
theorem GG.ws {g A U H} (h : GG g A U H) {args : Array Value} : ∀ w ∈ kw, w.before args U = true := kw_args h.2.1
theorem GG.w {g A U H} (h : GG g A U H) {args : Array Value} {w : Cond} (hw : w ∈ kw) : w.before args U = true := kw_args h.2.1 w hw
theorem GG.nw {g A U H} (h : GG g A U H) {w : Cond} (hw : w ∈ kw) : va_Nw w U := h.2.1 w hw
theorem GG.step {g : kG} {A A' : Nat → Prop} {s U : State} {H : Heap} {locs : List Loc} (h : GG g A s s.heap) (hS : va_S A s.heap H locs) (hU : U.heap = H) (hW : s.WarmedH U.vm) (hA : ∀ q, A' q → A q) : GG g A' U U.heap := by
  obtain ⟨h1, h2, h3, h4, h5, ⟨ha1, ha2, ha3⟩, ⟨hb1, hb2, hb3, hb4⟩, h6, h7, h8, h9⟩ := h
  have hal := hW.alike
  rw [hU]
  exact ⟨va_K.moved hal h1, kw_moved hW h2, fun q hq => by obtain ⟨a, ha⟩ := h3 q hq; exact ⟨a, vk_R.warm hW ha⟩, fun q hq => va_Nc.moved hal (h4 q hq), va_AO.moved hal h5, ⟨va_AOA.moved hal ha1, va_AOA.moved hal ha2, va_AOA.moved hal ha3⟩, ⟨(vk_S.moved hal (hb1.kept hS.2.1)).narrow hA, (va_Z.moved hal (hb2.kept hS.2.1)).narrow hA, vk_R.warm hW hb3, vk_R.warm hW hb4⟩,
    (va_Z.moved hal (h6.kept hS.2.1)).narrow hA, (kTT.moved hal (h7.kept hS.2.1)).narrow hA, (vx_Zq.moved hal (h8.kept hS.2.1)).narrow hA, (vx_Zq.moved hal (h9.kept hS.2.1)).narrow hA⟩
theorem GG.calling {g : kG} {A : Nat → Prop} {U : State} {f : JFrame} {mk : MethodId} {a : Array Value} (h : GG g A U U.heap) : GG g A (U.calling f mk a) (U.calling f mk a).heap := by
  obtain ⟨h1, h2, h3, h4, h5, ⟨ha1, ha2, ha3⟩, ⟨hb1, hb2, hb3, hb4⟩, h6, h7, h8, h9⟩ := h
  have hal : U.vm.Alike (U.calling f mk a).vm := Vm.Alike.refl U.vm
  exact ⟨va_K.moved hal h1, fun w hw => by
      rcases kok_split (List.mem_filter.mp hw).2 with hk | ⟨C, T, rfl⟩ | ⟨x, rfl⟩ | ⟨a9, i9, x, h9, rfl⟩
      · have hW : U.WarmedH (U.calling f mk a).vm := State.WarmedH.refl U
        exact word_at hW (good_of_word hk) (h2 _ hw)
      · exact va_tabs rfl (show U.vm = (U.calling f mk a).vm from rfl) (h2 _ hw)
      · exact va_tabs rfl (show U.vm = (U.calling f mk a).vm from rfl) (h2 _ hw)
      · exact va_tabs rfl (show U.vm = (U.calling f mk a).vm from rfl) (h2 _ hw), fun q hq => by obtain ⟨a', ha⟩ := h3 q hq; exact ⟨a', vk_R.same (u := U) rfl ha⟩, fun q hq => va_Nc.moved hal (h4 q hq), va_AO.moved hal h5, ⟨va_AOA.moved hal ha1, va_AOA.moved hal ha2, va_AOA.moved hal ha3⟩, ⟨vk_S.moved hal hb1, va_Z.moved hal hb2, vk_R.same (u := U) rfl hb3, vk_R.same (u := U) rfl hb4⟩,
    va_Z.moved hal h6, kTT.moved hal h7, vx_Zq.moved hal h8, vx_Zq.moved hal h9⟩
/-- a method's start -/
abbrev kPc (g : kG) (av : List Value) (ws : va_W) (sz : Nat) : Array Value → State → Prop :=
  va_Pc av (fun U => U.heap.size = sz ∧ va_P g.1 vwCl ws U.heap ∧ va_D (fun _ => True) ws ∧ GG g (va_A ws sz) U U.heap)
theorem kPc_blind {g : kG} {av : List Value} {ws : va_W} {sz : Nat} : FrameBlind (kPc g av ws sz) := by
  intro a U f mk h
  obtain ⟨h0, h1, h2, h3, h4⟩ := h
  exact ⟨h0, h1, h2, h3, GG.calling h4⟩
/-- its end: it returns .. -/
def kQ (g : kG) (Φ : Option Value → va_W → Prop) (A : Nat → Prop) : Array Value → State → Outcome → State → Prop := fun _ st oc t =>
  (∃ (v : Option Value) (w1 : va_W), oc = .returned v ∧ Φ v w1 ∧ va_P g.1 vwCl w1 t.heap ∧ va_D A w1) ∧ va_F A st t
/-- .. or throws -/
def kX (g : kG) (X : String → va_W → Prop) (A : Nat → Prop) : String → State → State → Prop := fun E st t =>
  (∃ w1 : va_W, X E w1 ∧ va_P g.1 vwCl w1 t.heap ∧ va_D A w1) ∧ va_F A st t
abbrev kR (fr lo mc ms : Nat) : Room := { frames := fr, locals := lo, cells := mc, slots := ms }
/-- THE CONTRACT -/
def kc (l : Launch) (g : kG) (y : MethodName) (bytes : ByteArray) (maxL : Nat) (ret : Option FieldType) (fr lo mc ms : Nat) (av : List Value) (ws : va_W) (Φ : Option Value → va_W → Prop) (X : String → va_W → Prop) : Prop :=
  ∀ sz : Nat, vx_Met l y [Cond.code y bytes maxL ret] (kR fr lo mc ms) (kPc g av ws sz) (kQ g Φ (va_A ws sz)) (kX g X (va_A ws sz)) mc ms (va_A ws sz)
/-- .. of a method with handlers -/
def kcH (l : Launch) (g : kG) (y : MethodName) (bytes : ByteArray) (maxL : Nat) (ret : Option FieldType) (hh : List (Nat × Nat × Nat × Nat)) (fr lo mc ms : Nat) (av : List Value) (ws : va_W) (Φ : Option Value → va_W → Prop) (X : String → va_W → Prop) : Prop :=
  ∀ sz : Nat, vx_Met l y [Cond.codeWith y bytes maxL ret hh] (kR fr lo mc ms) (kPc g av ws sz) (kQ g Φ (va_A ws sz)) (kX g X (va_A ws sz)) mc ms (va_A ws sz)
/-- what a body has at hand -/
def KB (p : Program) (s : State) (m : MethodId) (meth : Method) (c : Code) (own : String) (nm : String) (cc : ByteArray) (nL : Nat) (ret : Option FieldType) : Prop :=
  p.tables.exec = Jvm.exec ∧ c.code = cc ∧ c.maxLocals = nL ∧ s.vm.findClass own = some m.cls ∧ meth.locks = false ∧ meth.sig.returnType = ret ∧ meth.name = nm
theorem kbody {l : Launch} {g : kG} {y : MethodName} {bytes : ByteArray} {maxL : Nat} {ret : Option FieldType} {fr lo mc ms : Nat} {av : List Value} {ws : va_W} {Φ : Option Value → va_W → Prop} {X : String → va_W → Prop}
    (hy : plainName y.cls = true) (hn : (lg_sl av).length ≤ maxL)
    (body : ∀ (p : Program) (e : Env) (s : State) (m : MethodId) (args : Array Value) (below : List Frame) (meth : Method) (c : Code) (A : Nat → Prop) (H : Heap), KB p s m meth c y.cls y.name bytes maxL ret → (∀ x ∈ c.exceptionTable.toList, False) → GG g A s s.heap → va_P g.1 vwCl ws H → va_D A ws → (∀ q : Nat, s.heap.size ≤ q → A q) → va_S A s.heap H [] →
      ∀ ls : Array Slot, lv_has ls maxL (lv_args 0 av) → W p l e (kR fr lo mc ms) s m args below meth c H [] 0 0 (vx_MQ below (kQ g Φ A) (kX g X A) args s mc ms A) (F0 m 0 ls [])) : kc l g y bytes maxL ret fr lo mc ms av ws Φ X := by
  intro sz
  refine vx_ofW (cc := bytes) (maxL := maxL) (ret := ret) hy rfl ?_
  intro p e s m args below meth c s₁ B hml ht hv
  obtain ⟨rfl, hsz, hP, hD, hG⟩ := hv
  subst hsz
  have hl := lv_entry av (n := maxL) hn
  rw [lg_entry_eq]
  exact body p e s m av.toArray below meth c (va_A ws s.heap.size) s.heap ⟨B.exec, B.bytes, hml, findClass_of_methodNamed B.named, B.notSynchronized, B.returns, (name_of_methodNamed B.named B.method).1⟩ ht hG hP hD.self (fun q h => Or.inr h) va_S.rf _ hl
theorem kbodyH {l : Launch} {g : kG} {y : MethodName} {bytes : ByteArray} {maxL : Nat} {ret : Option FieldType} {hh : List (Nat × Nat × Nat × Nat)} {fr lo mc ms : Nat} {av : List Value} {ws : va_W} {Φ : Option Value → va_W → Prop} {X : String → va_W → Prop}
    (hy : plainName y.cls = true) (hn : (lg_sl av).length ≤ maxL)
    (body : ∀ (p : Program) (e : Env) (s : State) (m : MethodId) (args : Array Value) (below : List Frame) (meth : Method) (c : Code) (A : Nat → Prop) (H : Heap), KB p s m meth c y.cls y.name bytes maxL ret → c.exceptionTable.toList = tableOf hh → GG g A s s.heap → va_P g.1 vwCl ws H → va_D A ws → (∀ q : Nat, s.heap.size ≤ q → A q) → va_S A s.heap H [] →
      ∀ ls : Array Slot, lv_has ls maxL (lv_args 0 av) → W p l e (kR fr lo mc ms) s m args below meth c H [] 0 0 (vx_MQ below (kQ g Φ A) (kX g X A) args s mc ms A) (F0 m 0 ls [])) : kcH l g y bytes maxL ret hh fr lo mc ms av ws Φ X := by
  intro sz
  refine vx_ofWH (cc := bytes) (maxL := maxL) (ret := ret) (hh := hh) hy rfl ?_
  intro p e s m args below meth c s₁ B hml hv
  obtain ⟨rfl, hsz, hP, hD, hG⟩ := hv
  subst hsz
  have ht := vx_table (x := y) B (atoms_spec (ws := [Cond.codeWith y bytes maxL ret hh]) B.pre _ List.mem_cons_self)
  have hl := lv_entry av (n := maxL) hn
  rw [lg_entry_eq]
  exact body p e s m av.toArray below meth c (va_A ws s.heap.size) s.heap ⟨B.exec, B.bytes, hml, findClass_of_methodNamed B.named, B.notSynchronized, B.returns, (name_of_methodNamed B.named B.method).1⟩ ht hG hP hD.self (fun q h => Or.inr h) va_S.rf _ hl
section KCALL
variable {p : Program} {l : Launch} {e : Env} {R : Room} {s : State} {m : MethodId} {args : Array Value} {below : List Frame} {meth : Method} {c : Code} {H : Heap} {locs : List Loc} {cells slots : Nat} {Q : State → Prop}
variable {g : kG} {A : Nat → Prop} {own nm : String} {cc : ByteArray} {nL : Nat} {ret0 : Option FieldType} {ws wc wr : va_W} {pc : Nat} {ls : Array Slot} {st0 rest : List Value}
variable {y : MethodName} {bytes : ByteArray} {maxL index : Nat} {ret : Option FieldType} {hh : List (Nat × Nat × Nat × Nat)} {fr lo mc ms : Nat} {Φ : Option Value → va_W → Prop} {X : String → va_W → Prop} {a : Array Value} {lv : List (Nat × Value)}
/-- how a call goes on -/
abbrev kNext (p : Program) (l : Launch) (e : Env) (R : Room) (s : State) (m : MethodId) (args : Array Value) (below : List Frame) (meth : Method) (c : Code) (cells slots : Nat) (Q : State → Prop) (g : kG) (A : Nat → Prop) (wr : va_W) (Φ : Option Value → va_W → Prop) (pc : Nat) (ls : Array Slot) (rest : List Value) : Prop :=
  ∀ (v : Option Value) (w1 : va_W) (H1 : Heap) (locs1 : List Loc), Φ v w1 → va_P g.1 vwCl (wr ++ w1) H1 → va_D A (wr ++ w1) → va_S A s.heap H1 locs1 → W p l e R s m args below meth c H1 locs1 cells slots Q (F0 m pc ls (v.toList ++ rest))
abbrev kOut (p : Program) (l : Launch) (e : Env) (R : Room) (s : State) (m : MethodId) (args : Array Value) (below : List Frame) (meth : Method) (c : Code) (cells slots : Nat) (Q : State → Prop) (g : kG) (A : Nat → Prop) (wr : va_W) (X : String → va_W → Prop) (pc : Nat) (ls : Array Slot) (rest : List Value) : Prop :=
  ∀ (E : String) (w1 : va_W) (ce : Cell) (q9 : Nat) (H1 : Heap) (locs1 : List Loc), X E w1 → va_P g.1 vwCl (wr ++ w1) H1 → va_D A (wr ++ w1) → va_S A s.heap H1 locs1 → H1[q9]? = some ce → ce.vm = .none → s.vm.findClass E = some ce.cls → vx_W p l e R s m args below meth c H1 locs1 cells slots Q (F0 m pc ls rest) q9
theorem kcall_core (hr : vx_Run p l e R s m args below meth c H locs cells slots mc ms (F0 m pc ls st0) rest (kQ g Φ (va_A wc H.size) a) (kX g X (va_A wc H.size)) (va_A wc H.size))
    (hP : va_P g.1 vwCl ws H) (hD : va_D A ws) (hS : va_S A s.heap H locs) (hA : ∀ q : Nat, s.heap.size ≤ q → A q)
    (isC isR : List Nat) (hC : isC.map (fun i => ws[i]?) = wc.map some) (hR : isR.map (fun i => ws[i]?) = wr.map some) (hn : va_nd isR = true) (hdis : ∀ i ∈ isR, i ∉ isC)
    (kx : kOut p l e R s m args below meth c (cells + mc) (slots + ms) Q g A wr X pc ls rest) (kk : kNext p l e R s m args below meth c (cells + mc) (slots + ms) Q g A wr Φ (pc + 3) ls rest) :
    W p l e R s m args below meth c H locs cells slots Q (F0 m pc ls st0) := by
  have hF : ∀ q, va_A wc H.size q → A q := va_free hD hS hA isC hC
  intro T hT X0
  rcases hr T hT X0 with ⟨v, st₀, t, T', L, h0, X', hL, e1, e2, ⟨⟨v', w1, hv, hΦ, hP1, hD1⟩, hFF⟩, st⟩ | ⟨q, st₀, t, T', L, E, ce, h0, X', hL, e1, e2, ⟨⟨w1, hx, hP1, hD1⟩, hFF⟩, hce, hcv, hcl, st⟩
  · cases hv
    obtain ⟨k1, k2, k3⟩ := vx_keep h0 e1 hS (fun q _ h => hF q h) hF hL hFF
    rw [← e1] at hP1
    obtain ⟨j1, j2⟩ := va_join hP hD isC isR hC hR hn hdis k2 hF hP1 hD1
    obtain ⟨t2, a1, b1⟩ := kk v w1 T'.heap (locs ++ L) hΦ j1 j2 k3 T' rfl X'
    exact ⟨t2, st t2 a1, b1⟩
  · obtain ⟨k1, k2, k3⟩ := vx_keep h0 e1 hS (fun q _ h => hF q h) hF hL hFF
    rw [← e1] at hP1
    obtain ⟨j1, j2⟩ := va_join hP hD isC isR hC hR hn hdis k2 hF hP1 hD1
    obtain ⟨t2, a1, b1⟩ := kx E w1 ce q T'.heap (locs ++ L) hx j1 j2 k3 (by rw [e1]; exact hce) hcv hcl T' rfl X'
    exact ⟨t2, st.trans a1, b1⟩
theorem kpre {av : List Value} (G : GG g A s s.heap) (hP : va_P g.1 vwCl ws H) (hD : va_D A ws) (hS : va_S A s.heap H locs) (hA : ∀ q : Nat, s.heap.size ≤ q → A q) (isC : List Nat) (hC : isC.map (fun i => ws[i]?) = wc.map some) (hnC : va_nd isC = true) :
    ∀ U : State, U.heap = H → s.WarmedH U.vm → kPc g av wc H.size av.toArray U := by
  have hF : ∀ q, va_A wc H.size q → A q := va_free hD hS hA isC hC
  have hs : isC.filterMap (fun i => ws[i]?) = wc := by
    have h1 : isC.filterMap (fun i => ws[i]?) = (isC.map (fun i => ws[i]?)).filterMap id := by rw [List.filterMap_map]; rfl
    rw [h1, hC, List.filterMap_map]
    show wc.filterMap some = wc
    exact List.filterMap_some
  intro U hU hW
  refine ⟨rfl, by rw [hU], ?_, ?_, GG.step G hS hU hW hF⟩
  · rw [hU]; exact hP.sub isC hs
  · exact (hD.sub isC hnC hC).weaken (fun _ _ _ _ => trivial)
/-- a method of an object, called by its name, the receiver known -/
theorem kcallVr {C : String} {b n : Nat} {As : List Value} (K : KB p s m meth c own nm cc nL ret0) (G : GG g A s s.heap) (hM : kc l g y bytes maxL ret fr lo mc ms (.ref b :: As) wc Φ X)
    (hP : va_P g.1 vwCl ws H) (hD : va_D A ws) (hS : va_S A s.heap H locs) (hA : ∀ q : Nat, s.heap.size ≤ q → A q) (hl : lv_has ls nL lv)
    (hwc : Cond.code y bytes maxL ret ∈ kw) (hwl : Cond.methodLink own index y ∈ kw) (hwi : Cond.instanceMethod y ∈ kw) (hwse : Cond.selects C y y ∈ kw) (hwin : Cond.initialized y.cls ∈ kw)
    (hd : (y.cls ≠ "java/lang/invoke/MethodHandle" ∧ y.cls ≠ "java/lang/invoke/VarHandle") ∧ (parseMethodDescriptor y.desc).map (fun d => d.parameters.length) = some n)
    (isC isR : List Nat) (hC : isC.map (fun i => ws[i]?) = wc.map some) (hR : isR.map (fun i => ws[i]?) = wr.map some) (hn : va_nd isR = true) (hnC : va_nd isC = true) (hdis : ∀ i ∈ isR, i ∉ isC)
    (hrec : ∃ cell : Cell, H[b]? = some cell ∧ cell.vm.isStatics = false ∧ s.vm.findClass C = some cell.cls)
    (hlen : As.length = n) (hst : st0 = As.reverse ++ .ref b :: rest) (hW : (rest.map fun v => v.category).sum ≤ 8) (hdg : decode cc pc = .ok (.invokevirtual index, 3)) (hRm : fr + 1 ≤ R.frames ∧ 8 + (maxL + 11) + lo ≤ R.locals) (hf : cells + mc ≤ R.cells ∧ slots + ms ≤ R.slots)
    (kx : kOut p l e R s m args below meth c (cells + mc) (slots + ms) Q g A wr X pc ls rest) (kk : kNext p l e R s m args below meth c (cells + mc) (slots + ms) Q g A wr Φ (pc + 3) ls rest) :
    W p l e R s m args below meth c H locs cells slots Q (F0 m pc ls st0) := by
  obtain ⟨hx, hb, hml, hown, -⟩ := K
  subst hst
  obtain ⟨hd1, hd2⟩ := hd
  have hlen2 : ∀ sig, parseMethodDescriptor y.desc = some sig → n = sig.parameters.length := fun sig h => by rw [h] at hd2; exact (Option.some.inj hd2).symm
  exact kcall_core (vx_runV (Ts := kw) (C := C) (b := b) (As := As) (rest := rest) ⟨hx, hb, hml, hown, G.ws⟩ (hM H.size)
    ⟨⟨rfl, rfl, hRm.1, hRm.2, fun w hw a' U hW' => by rw [List.mem_singleton.mp hw]; exact word_at hW' (Or.inl rfl) (G.w (args := args) hwc), List.mem_singleton.mpr rfl, G.w hwc, G.w hwin, hd1, hlen2, G.w hwl⟩, G.w hwi, G.w hwse⟩
    ⟨kPc_blind, hrec, kpre G hP hD hS hA isC hC hnC⟩ rfl hlen hl.1 rfl (lv_room hW) hdg hf) hP hD hS hA isC isR hC hR hn hdis kx kk
/-- a method of an object, called by its name -/
theorem kcallV {C : String} {b ci q0 n : Nat} {fs : List Value} {r0 : vw_C} {As : List Value} (K : KB p s m meth c own nm cc nL ret0) (G : GG g A s s.heap) (hM : kc l g y bytes maxL ret fr lo mc ms (.ref b :: As) wc Φ X)
    (hP : va_P g.1 vwCl ws H) (hD : va_D A ws) (hS : va_S A s.heap H locs) (hA : ∀ q : Nat, s.heap.size ≤ q → A q) (hl : lv_has ls nL lv)
    (hwc : Cond.code y bytes maxL ret ∈ kw) (hwl : Cond.methodLink own index y ∈ kw) (hwi : Cond.instanceMethod y ∈ kw) (hwse : Cond.selects C y y ∈ kw) (hwin : Cond.initialized y.cls ∈ kw)
    (hd : (y.cls ≠ "java/lang/invoke/MethodHandle" ∧ y.cls ≠ "java/lang/invoke/VarHandle") ∧ (parseMethodDescriptor y.desc).map (fun d => d.parameters.length) = some n)
    (isC isR : List Nat) (hC : isC.map (fun i => ws[i]?) = wc.map some) (hR : isR.map (fun i => ws[i]?) = wr.map some) (hn : va_nd isR = true) (hnC : va_nd isC = true) (hdis : ∀ i ∈ isR, i ∉ isC)
    (hr0 : vwCl[ci]? = some r0) (hrC : r0.1 = C) (he : ws[q0]? = some (b, .inr (ci, fs)))
    (hlen : As.length = n) (hst : st0 = As.reverse ++ .ref b :: rest) (hW : (rest.map fun v => v.category).sum ≤ 8) (hdg : decode cc pc = .ok (.invokevirtual index, 3)) (hRm : fr + 1 ≤ R.frames ∧ 8 + (maxL + 11) + lo ≤ R.locals) (hf : cells + mc ≤ R.cells ∧ slots + ms ≤ R.slots)
    (kx : kOut p l e R s m args below meth c (cells + mc) (slots + ms) Q g A wr X pc ls rest) (kk : kNext p l e R s m args below meth c (cells + mc) (slots + ms) Q g A wr Φ (pc + 3) ls rest) :
    W p l e R s m args below meth c H locs cells slots Q (F0 m pc ls st0) := by
  have hrec := va_recv (G.K) hP hr0 he
  rw [hrC] at hrec
  exact kcallVr K G hM hP hD hS hA hl hwc hwl hwi hwse hwin hd isC isR hC hR hn hnC hdis hrec hlen hst hW hdg hRm hf kx kk
/-- a constructor -/
theorem kcallI {b n : Nat} {As : List Value} (K : KB p s m meth c own nm cc nL ret0) (G : GG g A s s.heap) (hM : kc l g y bytes maxL none fr lo mc ms (.ref b :: As) wc Φ X)
    (hP : va_P g.1 vwCl ws H) (hD : va_D A ws) (hS : va_S A s.heap H locs) (hA : ∀ q : Nat, s.heap.size ≤ q → A q) (hl : lv_has ls nL lv)
    (hwc : Cond.code y bytes maxL none ∈ kw) (hwl : Cond.methodLink own index y ∈ kw) (hwi : Cond.instanceMethod y ∈ kw) (hwin : Cond.initialized y.cls ∈ kw) (hy1 : y.name = "<init>")
    (hd : (y.cls ≠ "java/lang/invoke/MethodHandle" ∧ y.cls ≠ "java/lang/invoke/VarHandle") ∧ (parseMethodDescriptor y.desc).map (fun d => d.parameters.length) = some n)
    (isC isR : List Nat) (hC : isC.map (fun i => ws[i]?) = wc.map some) (hR : isR.map (fun i => ws[i]?) = wr.map some) (hn : va_nd isR = true) (hnC : va_nd isC = true) (hdis : ∀ i ∈ isR, i ∉ isC)
    (hlen : As.length = n) (hst : st0 = As.reverse ++ .ref b :: rest) (hW : (rest.map fun v => v.category).sum ≤ 8) (hdg : decode cc pc = .ok (.invokespecial index, 3)) (hRm : fr + 1 ≤ R.frames ∧ 8 + (maxL + 11) + lo ≤ R.locals) (hf : cells + mc ≤ R.cells ∧ slots + ms ≤ R.slots)
    (kx : kOut p l e R s m args below meth c (cells + mc) (slots + ms) Q g A wr X pc ls rest) (kk : kNext p l e R s m args below meth c (cells + mc) (slots + ms) Q g A wr Φ (pc + 3) ls rest) :
    W p l e R s m args below meth c H locs cells slots Q (F0 m pc ls st0) := by
  obtain ⟨hx, hb, hml, hown, -⟩ := K
  subst hst
  obtain ⟨hd1, hd2⟩ := hd
  have hlen2 : ∀ sig, parseMethodDescriptor y.desc = some sig → n = sig.parameters.length := fun sig h => by rw [h] at hd2; exact (Option.some.inj hd2).symm
  exact kcall_core (vx_runI (Ts := kw) (b := b) (As := As) (rest := rest) ⟨hx, hb, hml, hown, G.ws⟩ (hM H.size)
    ⟨⟨rfl, rfl, hRm.1, hRm.2, fun w hw a' U hW' => by rw [List.mem_singleton.mp hw]; exact word_at hW' (Or.inl rfl) (G.w (args := args) hwc), List.mem_singleton.mpr rfl, G.w hwc, G.w hwin, hd1, hlen2, G.w hwl⟩, hy1, G.w hwi⟩
    ⟨kPc_blind, kpre G hP hD hS hA isC hC hnC⟩ rfl hlen hl.1 rfl (lv_room hW) hdg hf) hP hD hS hA isC isR hC hR hn hdis kx kk
/-- a static method -/
theorem kcallS {n : Nat} {As : List Value} (K : KB p s m meth c own nm cc nL ret0) (G : GG g A s s.heap) (hM : kc l g y bytes maxL ret fr lo mc ms As wc Φ X)
    (hP : va_P g.1 vwCl ws H) (hD : va_D A ws) (hS : va_S A s.heap H locs) (hA : ∀ q : Nat, s.heap.size ≤ q → A q) (hl : lv_has ls nL lv)
    (hwc : Cond.code y bytes maxL ret ∈ kw) (hwl : Cond.methodLink own index y ∈ kw) (hwst : Cond.static y ∈ kw) (hwin : Cond.initialized y.cls ∈ kw)
    (hd : (y.cls ≠ "java/lang/invoke/MethodHandle" ∧ y.cls ≠ "java/lang/invoke/VarHandle") ∧ (parseMethodDescriptor y.desc).map (fun d => d.parameters.length) = some n)
    (isC isR : List Nat) (hC : isC.map (fun i => ws[i]?) = wc.map some) (hR : isR.map (fun i => ws[i]?) = wr.map some) (hn : va_nd isR = true) (hnC : va_nd isC = true) (hdis : ∀ i ∈ isR, i ∉ isC)
    (hlen : As.length = n) (hst : st0 = As.reverse ++ rest) (hW : (rest.map fun v => v.category).sum ≤ 8) (hdg : decode cc pc = .ok (.invokestatic index, 3)) (hRm : fr + 1 ≤ R.frames ∧ 8 + (maxL + 11) + lo ≤ R.locals) (hf : cells + mc ≤ R.cells ∧ slots + ms ≤ R.slots)
    (kx : kOut p l e R s m args below meth c (cells + mc) (slots + ms) Q g A wr X pc ls rest) (kk : kNext p l e R s m args below meth c (cells + mc) (slots + ms) Q g A wr Φ (pc + 3) ls rest) :
    W p l e R s m args below meth c H locs cells slots Q (F0 m pc ls st0) := by
  obtain ⟨hx, hb, hml, hown, -⟩ := K
  subst hst
  obtain ⟨hd1, hd2⟩ := hd
  have hlen2 : ∀ sig, parseMethodDescriptor y.desc = some sig → n = sig.parameters.length := fun sig h => by rw [h] at hd2; exact (Option.some.inj hd2).symm
  exact kcall_core (vx_runS (Ts := kw) (As := As) (rest := rest) ⟨hx, hb, hml, hown, G.ws⟩ (hM H.size)
    ⟨⟨rfl, rfl, hRm.1, hRm.2, fun w hw a' U hW' => by rw [List.mem_singleton.mp hw]; exact word_at hW' (Or.inl rfl) (G.w (args := args) hwc), List.mem_singleton.mpr rfl, G.w hwc, G.w hwin, hd1, hlen2, G.w hwl⟩, G.w hwst⟩
    ⟨kPc_blind, kpre G hP hD hS hA isC hC hnC⟩ rfl hlen hl.1 rfl (lv_room hW) hdg hf) hP hD hS hA isC isR hC hR hn hdis kx kk
/-- a static method with handlers of its own -/
theorem kcallSH {n : Nat} {As : List Value} (K : KB p s m meth c own nm cc nL ret0) (G : GG g A s s.heap) (hM : kcH l g y bytes maxL ret hh fr lo mc ms As wc Φ X)
    (hP : va_P g.1 vwCl ws H) (hD : va_D A ws) (hS : va_S A s.heap H locs) (hA : ∀ q : Nat, s.heap.size ≤ q → A q) (hl : lv_has ls nL lv)
    (hwc : Cond.codeWith y bytes maxL ret hh ∈ kw) (hwl : Cond.methodLink own index y ∈ kw) (hwst : Cond.static y ∈ kw) (hwin : Cond.initialized y.cls ∈ kw)
    (hd : (y.cls ≠ "java/lang/invoke/MethodHandle" ∧ y.cls ≠ "java/lang/invoke/VarHandle") ∧ (parseMethodDescriptor y.desc).map (fun d => d.parameters.length) = some n)
    (isC isR : List Nat) (hC : isC.map (fun i => ws[i]?) = wc.map some) (hR : isR.map (fun i => ws[i]?) = wr.map some) (hn : va_nd isR = true) (hnC : va_nd isC = true) (hdis : ∀ i ∈ isR, i ∉ isC)
    (hlen : As.length = n) (hst : st0 = As.reverse ++ rest) (hW : (rest.map fun v => v.category).sum ≤ 8) (hdg : decode cc pc = .ok (.invokestatic index, 3)) (hRm : fr + 1 ≤ R.frames ∧ 8 + (maxL + 11) + lo ≤ R.locals) (hf : cells + mc ≤ R.cells ∧ slots + ms ≤ R.slots)
    (kx : kOut p l e R s m args below meth c (cells + mc) (slots + ms) Q g A wr X pc ls rest) (kk : kNext p l e R s m args below meth c (cells + mc) (slots + ms) Q g A wr Φ (pc + 3) ls rest) :
    W p l e R s m args below meth c H locs cells slots Q (F0 m pc ls st0) := by
  obtain ⟨hx, hb, hml, hown, -⟩ := K
  subst hst
  have hT : GoodIn kw (va_wsS own index y [Cond.codeWith y bytes maxL ret hh]) := by
    intro w hw
    simp only [va_wsS, List.cons_append, List.nil_append, List.mem_cons, List.not_mem_nil, or_false] at hw
    rcases hw with rfl | rfl | rfl | rfl
    · exact ⟨hwl, Or.inl rfl⟩
    · exact ⟨hwst, Or.inl rfl⟩
    · exact ⟨hwin, Or.inl rfl⟩
    · exact ⟨hwc, Or.inl rfl⟩
  exact kcall_core (vx_runSX (Ts := kw) (As := As) (rest := rest) ⟨hx, hb, hml, hown, G.ws⟩ (hM H.size)
    (vx_cwSW n G.ws hT rfl rfl rfl ⟨hd.1.1, hd.1.2, hd.2⟩ hRm)
    ⟨kPc_blind, kpre G hP hD hS hA isC hC hnC⟩ rfl hlen hl.1 rfl (lv_room hW) hdg hf) hP hD hS hA isC isR hC hR hn hdis kx kk
end KCALL
section KROWS
variable {p : Program} {l : Launch} {e : Env} {R : Room} {s : State} {m : MethodId} {args : Array Value} {below : List Frame} {meth : Method} {c : Code} {H : Heap} {locs : List Loc} {cells slots : Nat} {Q : State → Prop}
variable {g : kG} {A : Nat → Prop} {own nm : String} {cc : ByteArray} {nL : Nat} {ret0 : Option FieldType} {ws wc wr : va_W} {pc : Nat} {ls : Array Slot} {st0 rest : List Value}
variable {Φ : Option Value → va_W → Prop} {X : String → va_W → Prop} {mc ms : Nat} {lv : List (Nat × Value)}
theorem GG.same {o ref n d : String} {h : Heap} (G : GG g A s h) (hw : Cond.sameField ref o n d ∈ kw) : ∀ x, s.fieldFound? o n d = some x → s.fieldFound? ref n d = some x := fun x hx => u_same (G.w (args := #[]) hw) x hx
theorem GG.str {own tx : String} {k : Nat} {h : Heap} (G : GG g A s h) (hq : (own, k, tx) ∈ kstr) : ∃ a, vk_R own k tx a s := G.2.2.1 _ hq
theorem GG.nc {C T : String} {h : Heap} (G : GG g A s h) (hq : (C, T) ∈ knc) : va_Nc C T s := G.2.2.2.1 _ hq
theorem GG.ao {h : Heap} (G : GG g A s h) : va_AO "java/lang/Object" s := G.2.2.2.2.1
theorem GG.aoa {h : Heap} (G : GG g A s h) : va_AOA .int s ∧ va_AOA .boolean s ∧ va_AOA (.array .int) s := G.2.2.2.2.2.1
theorem GG.st {h : Heap} (G : GG g A s h) : vk_S 2 [4, 3] [[110, 101, 115, 119], [115, 109, 114]] g.2.2.2.1 g.2.2.2.2 A s h := G.2.2.2.2.2.2.1.1
theorem GG.cs {h : Heap} (G : GG g A s h) : va_Z "java/lang/String" "COMPACT_STRINGS" "Z" (.int 1) A s h := G.2.2.2.2.2.2.1.2.1
theorem GG.ways {h : Heap} (G : GG g A s h) : vk_R "GalleonWaveLaw" kWAYS "nesw" (g.2.2.2.1 0) s := G.2.2.2.2.2.2.1.2.2.1
theorem GG.bots {h : Heap} (G : GG g A s h) : vk_R "GalleonWaveLaw" kBOTS "smr" (g.2.2.2.1 1) s := G.2.2.2.2.2.2.1.2.2.2
theorem GG.Z {h : Heap} (G : GG g A s h) : va_Z kE "DEFAULTCAPACITY_EMPTY_ELEMENTDATA" "[Ljava/lang/Object;" (.ref g.2.1) A s h := G.2.2.2.2.2.2.2.1
theorem GG.E {h : Heap} (G : GG g A s h) : va_T (.object "java/lang/Object") g.2.1 0 (fun _ => .null) A s h := G.2.2.2.2.2.2.2.2.1.1
theorem GG.scr {h : Heap} (G : GG g A s h) : ∃ (L : Nat) (xs : Nat → Int32), L ≤ 260 ∧ va_T .int (g.2.2.2.1 2) L (fun i => .int (xs i)) A s h := (by obtain ⟨L, xs, hL, h2, h3⟩ := G.2.2.2.2.2.2.2.2.1.2; exact ⟨L, xs, hL, h2⟩)
theorem GG.sio {h : Heap} (G : GG g A s h) : vx_Zq "jdk/internal/util/Preconditions" "SIOOBE_FORMATTER" "Ljava/util/function/BiFunction;" A s h := (by obtain ⟨L, xs, hL, h2, h3⟩ := G.2.2.2.2.2.2.2.2.1.2; exact h3)
theorem GG.U {h : Heap} (G : GG g A s h) : vx_Zq Bundle.tN "UNASSIGNED_STACK" Bundle.steD A s h := G.2.2.2.2.2.2.2.2.2.1
theorem GG.S {h : Heap} (G : GG g A s h) : vx_Zq Bundle.tN "SUPPRESSED_SENTINEL" Bundle.listD A s h := G.2.2.2.2.2.2.2.2.2.2
theorem ksubP {D : va_G} {ws w1 : va_W} {H : Heap} (hP : va_P D vwCl ws H) (isW : List Nat) (hw : isW.map (fun i => ws[i]?) = w1.map some) : va_P D vwCl w1 H := by
  refine hP.sub isW ?_
  have h1 : isW.filterMap (fun i => ws[i]?) = (isW.map (fun i => ws[i]?)).filterMap id := by rw [List.filterMap_map]; rfl
  rw [h1, hw, List.filterMap_map]
  show w1.filterMap some = w1
  exact List.filterMap_some
theorem kretI {v : Int32} (K : KB p s m meth c own nm cc nL (some .int)) (hP : va_P g.1 vwCl ws H) (hD : va_D A ws) (hS : va_S A s.heap H locs) (isW : List Nat) (w1 : va_W) (hw : isW.map (fun i => ws[i]?) = w1.map some) (hn : va_nd isW = true) (hΦ : Φ (some (.int v)) w1) (hc : cells ≤ mc) (hs : slots ≤ ms) (hdg : decode cc pc = .ok (.ireturn, 1)) :
    W p l e R s m args below meth c H locs cells slots (vx_MQ below (kQ g Φ A) (kX g X A) args s mc ms A) (F0 m pc ls [.int v]) := by
  obtain ⟨hx, hb, -, -, hlocks, hr, -⟩ := K
  refine W.widen hc hs (vx_ret ?_)
  exact W.iret hx hb hr (fun t ht hW => ⟨⟨_, w1, rfl, hΦ, by rw [ht]; exact ksubP hP isW hw, hD.sub isW hn hw⟩, hS.F ht⟩) hS.2.2 hdg hlocks
theorem kretZ {v : Int32} {ty : FieldType} (K : KB p s m meth c own nm cc nL (some ty)) (hP : va_P g.1 vwCl ws H) (hD : va_D A ws) (hS : va_S A s.heap H locs) (isW : List Nat) (w1 : va_W) (hw : isW.map (fun i => ws[i]?) = w1.map some) (hn : va_nd isW = true) (hΦ : Φ (some (.int v)) w1) (hc : cells ≤ mc) (hs : slots ≤ ms) (hdg : decode cc pc = .ok (.ireturn, 1)) (hnar : narrow ty (.int v) = .int v := by rfl) :
    W p l e R s m args below meth c H locs cells slots (vx_MQ below (kQ g Φ A) (kX g X A) args s mc ms A) (F0 m pc ls [.int v]) := by
  obtain ⟨hx, hb, -, -, hlocks, hr, -⟩ := K
  refine W.widen hc hs (vx_ret ?_)
  exact W.zret hx hb hr hnar (fun t ht hW => ⟨⟨_, w1, rfl, hΦ, by rw [ht]; exact ksubP hP isW hw, hD.sub isW hn hw⟩, hS.F ht⟩) hS.2.2 hdg hlocks
theorem kretL {v : Int64} (K : KB p s m meth c own nm cc nL (some .long)) (hP : va_P g.1 vwCl ws H) (hD : va_D A ws) (hS : va_S A s.heap H locs) (isW : List Nat) (w1 : va_W) (hw : isW.map (fun i => ws[i]?) = w1.map some) (hn : va_nd isW = true) (hΦ : Φ (some (.long v)) w1) (hc : cells ≤ mc) (hs : slots ≤ ms) (hdg : decode cc pc = .ok (.lreturn, 1)) :
    W p l e R s m args below meth c H locs cells slots (vx_MQ below (kQ g Φ A) (kX g X A) args s mc ms A) (F0 m pc ls [.long v]) := by
  obtain ⟨hx, hb, -, -, hlocks, hr, -⟩ := K
  refine W.widen hc hs (vx_ret ?_)
  exact W.lret hx hb hr (fun t ht hW => ⟨⟨_, w1, rfl, hΦ, by rw [ht]; exact ksubP hP isW hw, hD.sub isW hn hw⟩, hS.F ht⟩) hS.2.2 hdg hlocks
theorem kretV (K : KB p s m meth c own nm cc nL none) (hP : va_P g.1 vwCl ws H) (hD : va_D A ws) (hS : va_S A s.heap H locs) (isW : List Nat) (w1 : va_W) (hw : isW.map (fun i => ws[i]?) = w1.map some) (hn : va_nd isW = true) (hΦ : Φ none w1) (hc : cells ≤ mc) (hs : slots ≤ ms) (hdg : decode cc pc = .ok (.return_, 1)) :
    W p l e R s m args below meth c H locs cells slots (vx_MQ below (kQ g Φ A) (kX g X A) args s mc ms A) (F0 m pc ls []) := by
  obtain ⟨hx, hb, -, -, hlocks, hr, -⟩ := K
  refine W.widen hc hs (vx_ret ?_)
  exact W.vret hx hb hr (fun t ht hW => ⟨⟨_, w1, rfl, hΦ, by rw [ht]; exact ksubP hP isW hw, hD.sub isW hn hw⟩, hS.F ht⟩) hS.2.2 hdg hlocks
theorem kretA {v : Nat} {rt : FieldType} (K : KB p s m meth c own nm cc nL (some rt)) (hP : va_P g.1 vwCl ws H) (hD : va_D A ws) (hS : va_S A s.heap H locs) (isW : List Nat) (w1 : va_W) (hw : isW.map (fun i => ws[i]?) = w1.map some) (hn : va_nd isW = true) (hΦ : Φ (some (.ref v)) w1) (hc : cells ≤ mc) (hs : slots ≤ ms) (hdg : decode cc pc = .ok (.areturn, 1)) (hrt : (∃ n, rt = .object n) ∨ ∃ t, rt = .array t := by first | exact Or.inl ⟨_, rfl⟩ | exact Or.inr ⟨_, rfl⟩) :
    W p l e R s m args below meth c H locs cells slots (vx_MQ below (kQ g Φ A) (kX g X A) args s mc ms A) (F0 m pc ls [.ref v]) := by
  obtain ⟨hx, hb, -, -, hlocks, hr, -⟩ := K
  refine W.widen hc hs (vx_ret ?_)
  exact W.aret hx hb hr hrt (Or.inr ⟨_, rfl⟩) (fun t ht hW => ⟨⟨_, w1, rfl, hΦ, by rw [ht]; exact ksubP hP isW hw, hD.sub isW hn hw⟩, hS.F ht⟩) hS.2.2 hdg hlocks
/-- thrown by a callee, not caught here -/
theorem kthrow {E : String} {ce : Cell} {q9 : Nat} (K : KB p s m meth c own nm cc nL ret0) (ht : ∀ x ∈ c.exceptionTable.toList, False) (hP : va_P g.1 vwCl ws H) (hD : va_D A ws) (hS : va_S A s.heap H locs) (hce : H[q9]? = some ce) (hcv : ce.vm = .none) (hcl : s.vm.findClass E = some ce.cls)
    (isW : List Nat) (w1 : va_W) (hw : isW.map (fun i => ws[i]?) = w1.map some) (hn : va_nd isW = true) (hX : X E w1) (hc : cells ≤ mc) (hs : slots ≤ ms) :
    vx_W p l e R s m args below meth c H locs cells slots (vx_MQ below (kQ g Φ A) (kX g X A) args s mc ms A) (F0 m pc ls rest) q9 :=
  vx_out (fun x hx => (ht x hx).elim) K.2.2.2.2.1 hce hcv hcl (fun t ht' hal => ⟨⟨w1, hX, by rw [ht']; exact ksubP hP isW hw, hD.sub isW hn hw⟩, hS.F ht'⟩) hS.2.2 hc hs
theorem kthrowNew {cls text : String} {names : List String} {ik is ic : Nat} (hl0 : l.stackTraces = false) (K : KB p s m meth c own nm cc nL ret0) (ht : ∀ x ∈ c.exceptionTable.toList, False) (G : GG g A s s.heap) (hP : va_P g.1 vwCl ws H) (hD : va_D A ws) (hS : va_S A s.heap H locs) (hl : lv_has ls nL lv)
    (hcls : Bundle.fit cls = true) (hnames : ∀ n ∈ names, Bundle.fit n = true) (hk : Cond.classLink own ik cls ∈ kw) (hini : Cond.initialized cls ∈ kw) (hstr : ∃ a, vk_R own is text a s)
    (hat : ∀ w ∈ vx_atS own ic cls names, w ∈ kw) (hgood : ∀ w ∈ Cond.classLink own ik cls :: Cond.initialized cls :: vx_atS own ic cls names, vx_ot w = true)
    (d0 : decode cc pc = .ok (.new ik, 3)) (d3 : decode cc (pc + 3) = .ok (.dup, 1)) (d4 : decode cc (pc + 4) = .ok (.ldc is, 2)) (d6 : decode cc (pc + 6) = .ok (.invokespecial ic, 3)) (d9 : decode cc (pc + 9) = .ok (.athrow, 1))
    (hRframes : names.length + 3 < R.frames) (hRlocals : (rest.map fun v => v.category).sum + (13 * (names.length + 1) + 43) ≤ R.locals) (hRcells : cells + 1 ≤ R.cells) (hRslots : slots + 6 ≤ R.slots)
    (isW : List Nat) (w1 : va_W) (hw : isW.map (fun i => ws[i]?) = w1.map some) (hn : va_nd isW = true) (hX : X cls w1) (hc : cells + 1 ≤ mc) (hs : slots + 6 ≤ ms) :
    W p l e R s m args below meth c H locs cells slots (vx_MQ below (kQ g Φ A) (kX g X A) args s mc ms A) (F0 m pc ls rest) := by
  obtain ⟨hx, hb, hml, hown, hlocks, -, -⟩ := K
  obtain ⟨sa, hsa⟩ := hstr
  refine vx_throwS (A := A) hx hb hl0 hown hcls hnames (G.w hk) (G.w hini) hsa (fun w hw9 => G.w (hat w hw9)) hgood G.U G.S hS (hl.1.trans hml.symm) d0 d3 d4 d6 d9 (fun x hx9 => (ht x hx9).elim) hRframes hRlocals hRcells hRslots hlocks (fun t hal hz hk9 => ?_) hS.2.2 hc hs
  have hP2 : va_P g.1 vwCl w1 t.heap := (ksubP hP isW hw).kept (fun k x hx9 => hk9 x.1 ((ksubP hP isW hw k x hx9).lt))
  exact ⟨⟨w1, hX, hP2, hD.sub isW hn hw⟩, Nat.le_trans hS.1 hz, fun q h1 h2 => (hk9 q (Nat.lt_of_lt_of_le h1 hS.1)).trans (hS.2.1 q h1 h2)⟩
theorem kthrowNewW {cls text : String} {names : List String} {ik is ic : Nat} (hl0 : l.stackTraces = false) (K : KB p s m meth c own nm cc nL ret0) (ht : ∀ x ∈ c.exceptionTable.toList, False) (G : GG g A s s.heap) (hP : va_P g.1 vwCl ws H) (hD : va_D A ws) (hS : va_S A s.heap H locs) (hl : lv_has ls nL lv)
    (hcls : Bundle.fit cls = true) (hnames : ∀ n ∈ names, Bundle.fit n = true) (hk : Cond.classLink own ik cls ∈ kw) (hini : Cond.initialized cls ∈ kw) (hstr : ∃ a, vk_R own is text a s)
    (hat : ∀ w ∈ vx_atS own ic cls names, w ∈ kw) (hgood : ∀ w ∈ Cond.classLink own ik cls :: Cond.initialized cls :: vx_atS own ic cls names, vx_ot w = true)
    (d0 : decode cc pc = .ok (.new ik, 3)) (d3 : decode cc (pc + 3) = .ok (.dup, 1)) (d4 : decode cc (pc + 4) = .ok (.ldc_w is, 3)) (d7 : decode cc (pc + 7) = .ok (.invokespecial ic, 3)) (d10 : decode cc (pc + 10) = .ok (.athrow, 1))
    (hRframes : names.length + 3 < R.frames) (hRlocals : (rest.map fun v => v.category).sum + (13 * (names.length + 1) + 43) ≤ R.locals) (hRcells : cells + 1 ≤ R.cells) (hRslots : slots + 6 ≤ R.slots)
    (isW : List Nat) (w1 : va_W) (hw : isW.map (fun i => ws[i]?) = w1.map some) (hn : va_nd isW = true) (hX : X cls w1) (hc : cells + 1 ≤ mc) (hs : slots + 6 ≤ ms) :
    W p l e R s m args below meth c H locs cells slots (vx_MQ below (kQ g Φ A) (kX g X A) args s mc ms A) (F0 m pc ls rest) := by
  obtain ⟨hx, hb, hml, hown, hlocks, -, -⟩ := K
  obtain ⟨sa, hsa⟩ := hstr
  refine vx_throwSW (A := A) hx hb hl0 hown hcls hnames (G.w hk) (G.w hini) hsa (fun w hw9 => G.w (hat w hw9)) hgood G.U G.S hS (hl.1.trans hml.symm) d0 d3 d4 d7 d10 (fun x hx9 => (ht x hx9).elim) hRframes hRlocals hRcells hRslots hlocks (fun t hal hz hk9 => ?_) hS.2.2 hc hs
  have hP2 : va_P g.1 vwCl w1 t.heap := (ksubP hP isW hw).kept (fun k x hx9 => hk9 x.1 ((ksubP hP isW hw k x hx9).lt))
  exact ⟨⟨w1, hX, hP2, hD.sub isW hn hw⟩, Nat.le_trans hS.1 hz, fun q h1 h2 => (hk9 q (Nat.lt_of_lt_of_le h1 hS.1)).trans (hS.2.1 q h1 h2)⟩
/-- a new array, its class the launch's own -/
theorem knewa {atype : ArrayType} {ty : FieldType} {t0 : Nat} {cI : ClassId} {n : Int32} {N : Nat} {a0 : vp_A} (hx : p.tables.exec = Jvm.exec) (hb : c.code = cc) (harr : (Cond.arrayClass (newarray.typeOf atype)).before args s = true) (hty : newarray.typeOf atype = ty) (G : GG g A s s.heap) (ht0 : (kty g)[t0]? = some (cI, ty)) (hcls : ∀ cA, va_RA s cA ty → s.vm.findClass ("[" ++ ty.toString) = some cA)
    (hP : va_P g.1 vwCl ws H) (hD : va_D A ws) (hS : va_S A s.heap H locs) (hA : ∀ q : Nat, s.heap.size ≤ q → A q) (ha : ∀ cA : ClassId, vp_cell cA a0 = arrV cA N (fun _ => defaultValue ty)) (hn : ¬ n < 0) (hN : n.toNatClampNeg = N) (hbytes : N * componentBytes ty ≤ 536870912) (hcells : cells + 1 ≤ R.cells) (hslots : slots + N ≤ R.slots) (hdg : decode cc pc = .ok (.newarray atype, 2))
    (kk : ∀ (q : Nat) (H1 : Heap), va_P g.1 vwCl (ws ++ [(q, .inl (cI, a0))]) H1 → va_D A (ws ++ [(q, .inl (cI, a0))]) → va_S A s.heap H1 locs → W p l e R s m args below meth c H1 locs (cells + 1) (slots + N) Q (F0 m (pc + 2) ls (.ref q :: rest))) : W p l e R s m args below meth c H locs cells slots Q (F0 m pc ls (.int n :: rest)) := by
  refine va_newa hx hb harr hty G.K hP hD hS hA ha hn hN hbytes hcells hslots hdg (fun q cA H1 hK hP hD hS => ?_)
  have h1 := (G.K.2 t0 _ ht0).2
  have h2 := (hK.2 (kty g).length (cA, ty) (by simp)).2
  have h3 := (hcls _ h1).symm.trans (hcls _ h2)
  cases h3
  exact kk q H1 hP hD hS
theorem kNewa0 {n : Int32} {N : Nat} (hx : p.tables.exec = Jvm.exec) (hb : c.code = cc) (harr : (Cond.arrayClass .int).before args s = true) (G : GG g A s s.heap) (hP : va_P g.1 vwCl ws H) (hD : va_D A ws) (hS : va_S A s.heap H locs) (hA : ∀ q : Nat, s.heap.size ≤ q → A q) (hn : ¬ n < 0) (hN : n.toNatClampNeg = N) (hbytes : N * componentBytes .int ≤ 536870912) (hcells : cells + 1 ≤ R.cells) (hslots : slots + N ≤ R.slots) (hdg : decode cc pc = .ok (.newarray .int, 2))
    (kk : ∀ (q : Nat) (H1 : Heap), va_P g.1 vwCl (ws ++ [(q, .inl (g.2.2.1 0, N, .inl (fun _ => 0)))]) H1 → va_D A (ws ++ [(q, .inl (g.2.2.1 0, N, .inl (fun _ => 0)))]) → va_S A s.heap H1 locs → W p l e R s m args below meth c H1 locs (cells + 1) (slots + N) Q (F0 m (pc + 2) ls (.ref q :: rest))) : W p l e R s m args below meth c H locs cells slots Q (F0 m pc ls (.int n :: rest)) :=
  knewa (a0 := (N, .inl (fun _ => 0))) (atype := .int) (ty := .int) (t0 := 0) (cI := g.2.2.1 0) hx hb harr rfl G rfl (fun cA h => h) hP hD hS hA (fun _ => rfl) hn hN hbytes hcells hslots hdg kk
theorem kNewa2 {n : Int32} {N : Nat} (hx : p.tables.exec = Jvm.exec) (hb : c.code = cc) (harr : (Cond.arrayClass .boolean).before args s = true) (G : GG g A s s.heap) (hP : va_P g.1 vwCl ws H) (hD : va_D A ws) (hS : va_S A s.heap H locs) (hA : ∀ q : Nat, s.heap.size ≤ q → A q) (hn : ¬ n < 0) (hN : n.toNatClampNeg = N) (hbytes : N * componentBytes .boolean ≤ 536870912) (hcells : cells + 1 ≤ R.cells) (hslots : slots + N ≤ R.slots) (hdg : decode cc pc = .ok (.newarray .boolean, 2))
    (kk : ∀ (q : Nat) (H1 : Heap), va_P g.1 vwCl (ws ++ [(q, .inl (g.2.2.1 2, N, .inl (fun _ => 0)))]) H1 → va_D A (ws ++ [(q, .inl (g.2.2.1 2, N, .inl (fun _ => 0)))]) → va_S A s.heap H1 locs → W p l e R s m args below meth c H1 locs (cells + 1) (slots + N) Q (F0 m (pc + 2) ls (.ref q :: rest))) : W p l e R s m args below meth c H locs cells slots Q (F0 m pc ls (.int n :: rest)) :=
  knewa (a0 := (N, .inl (fun _ => 0))) (atype := .boolean) (ty := .boolean) (t0 := 2) (cI := g.2.2.1 2) hx hb harr rfl G rfl (fun cA h => h) hP hD hS hA (fun _ => rfl) hn hN hbytes hcells hslots hdg kk
end KROWS
/-- in a range, as an answer -/
def inR (x lo hi : Int32) : Bool := decide (lo ≤ x) && decide (x ≤ hi)
theorem inR_t {x lo hi : Int32} (h1 : ¬ x < lo) (h2 : x ≤ hi) : inR x lo hi = true := by
  have h3 : lo ≤ x := Int32.not_lt.mp h1
  simp [inR, h3, h2]
theorem inR_l {x lo hi : Int32} (h1 : x < lo) : inR x lo hi = false := by
  have h3 : ¬ lo ≤ x := fun h => absurd h1 (Int32.not_lt.mpr h)
  simp [inR, h3]
theorem inR_g {x lo hi : Int32} (h1 : ¬ x ≤ hi) : inR x lo hi = false := by
  simp [inR, h1]
theorem inR_t' {x lo hi : Int32} (h1 : lo ≤ x) (h2 : x ≤ hi) : inR x lo hi = true := by simp [inR, h1, h2]
theorem inR_l' {x lo hi : Int32} (h1 : ¬ lo ≤ x) : inR x lo hi = false := by simp [inR, h1]
def kz (b : Bool) : Int32 := if b then 1 else 0
theorem kz_0 {b : Bool} : kz b = 0 ↔ b = false := by cases b <;> decide
theorem kz_n0 {b : Bool} : ¬ kz b = 0 ↔ b = true := by cases b <;> decide
theorem kz_nar (b : Bool) : narrow .boolean (.int (kz b)) = .int (kz b) := by cases b <;> rfl
theorem kNewaO {p : Program} {l : Launch} {e : Env} {R : Room} {s : State} {m : MethodId} {args : Array Value} {below : List Frame} {meth : Method} {c : Code} {H : Heap} {locs : List Loc} {cells slots : Nat} {Q : State → Prop} {g : kG} {A : Nat → Prop} {own : String} {cc : ByteArray} {ws : va_W} {pc : Nat} {ls : Array Slot} {rest : List Value} {n : Int32} {N index : Nat} (hx : p.tables.exec = Jvm.exec) (hb : c.code = cc) (hown : s.vm.findClass own = some m.cls) (hcl : (Cond.classLink own index "java/lang/Object").before args s = true) (G : GG g A s s.heap) (hP : va_P g.1 vwCl ws H) (hD : va_D A ws) (hS : va_S A s.heap H locs) (hA : ∀ q : Nat, s.heap.size ≤ q → A q) (hn : ¬ n < 0) (hN : n.toNatClampNeg = N) (hbytes : N * 4 ≤ 536870912) (hcells : cells + 1 ≤ R.cells) (hslots : slots + N ≤ R.slots) (hdg : decode cc pc = .ok (.anewarray index, 3))
    (kk : ∀ (q : Nat) (H1 : Heap), va_P g.1 vwCl (ws ++ [(q, .inl (g.2.2.1 4, N, .inr (.inr (.inr (.inr (fun _ => none))))))]) H1 → va_D A (ws ++ [(q, .inl (g.2.2.1 4, N, .inr (.inr (.inr (.inr (fun _ => none))))))]) → va_S A s.heap H1 locs → W p l e R s m args below meth c H1 locs (cells + 1) (slots + N) Q (F0 m (pc + 3) ls (.ref q :: rest))) : W p l e R s m args below meth c H locs cells slots Q (F0 m pc ls (.int n :: rest)) := by
  refine va_newq hx hb hown hcl G.ao G.K hP hD hS hA hn hN hbytes hcells hslots hdg (fun q cA H1 hK hP hD hS => ?_)
  obtain ⟨_, _, _, _, _, h1⟩ := (G.K.2 4 (g.2.2.1 4, .object "java/lang/Object") rfl).2
  obtain ⟨_, _, _, _, _, h2⟩ := (hK.2 (kty g).length (cA, .object "java/lang/Object") (by simp)).2
  have h3 := h1.symm.trans h2
  cases h3
  exact kk q H1 hP hD hS
theorem inR_n {x lo hi : Int32} {N : Nat} (h : inR x lo hi = true) (h0 : (0 : Int32) ≤ lo) (hN : hi.toInt = N) : ∃ n : Nat, n ≤ N ∧ x = nI n := by
  simp only [inR, Bool.and_eq_true, decide_eq_true_eq] at h
  exact nI_of2 hN (Int32.not_lt.mpr (Int32.le_trans h0 h.1)) h.2
/-! rows of mine: arrays that are made and not looked at again, arrays of arrays -/
theorem kdropP {D : va_G} {w1 w2 : va_W} {H : Heap} (h : va_P D vwCl (w1 ++ w2) H) : va_P D vwCl w1 H := fun k q hk => h k q (by rw [List.getElem?_append_left (List.getElem?_eq_some_iff.mp hk).1]; exact hk)
theorem kdropD {A : Nat → Prop} {w1 w2 : va_W} (h : va_D A (w1 ++ w2)) : va_D A w1 :=
  ⟨fun i j p q hi hj he => h.1 i j p q (by rw [List.getElem?_append_left (List.getElem?_eq_some_iff.mp hi).1]; exact hi) (by rw [List.getElem?_append_left (List.getElem?_eq_some_iff.mp hj).1]; exact hj) he,
   fun k q hk => h.2 k q (by rw [List.getElem?_append_left (List.getElem?_eq_some_iff.mp hk).1]; exact hk)⟩
section KROWS3
variable {p : Program} {l : Launch} {e : Env} {R : Room} {s : State} {m : MethodId} {args : Array Value} {below : List Frame} {meth : Method} {c : Code} {H : Heap} {locs : List Loc} {cells slots : Nat} {Q : State → Prop}
variable {g : kG} {A : Nat → Prop} {own nm : String} {cc : ByteArray} {nL : Nat} {ret0 : Option FieldType} {ws wc wr : va_W} {pc : Nat} {ls : Array Slot} {st0 rest : List Value}
variable {Φ : Option Value → va_W → Prop} {X : String → va_W → Prop} {mc ms : Nat} {lv : List (Nat × Value)}
theorem kc0 {h : Heap} (G : GG g A s h) : s.vm.findClass "[I" = some (g.2.2.1 0) := (G.K.2 0 (g.2.2.1 0, .int) rfl).2
theorem knewaD {atype : ArrayType} {ty : FieldType} {n : Int32} {N : Nat} {a0 : vp_A} (hx : p.tables.exec = Jvm.exec) (hb : c.code = cc) (harr : (Cond.arrayClass (newarray.typeOf atype)).before args s = true) (hty : newarray.typeOf atype = ty) (G : GG g A s s.heap)
    (hP : va_P g.1 vwCl ws H) (hD : va_D A ws) (hS : va_S A s.heap H locs) (hA : ∀ q : Nat, s.heap.size ≤ q → A q) (ha : ∀ cA : ClassId, vp_cell cA a0 = arrV cA N (fun _ => defaultValue ty)) (hn : ¬ n < 0) (hN : n.toNatClampNeg = N) (hbytes : N * componentBytes ty ≤ 536870912) (hcells : cells + 1 ≤ R.cells) (hslots : slots + N ≤ R.slots) (hdg : decode cc pc = .ok (.newarray atype, 2))
    (kk : ∀ (q : Nat) (H1 : Heap), va_P g.1 vwCl ws H1 → va_D A ws → va_S A s.heap H1 locs → W p l e R s m args below meth c H1 locs (cells + 1) (slots + N) Q (F0 m (pc + 2) ls (.ref q :: rest))) : W p l e R s m args below meth c H locs cells slots Q (F0 m pc ls (.int n :: rest)) := by
  refine va_newa hx hb harr hty G.K hP hD hS hA ha hn hN hbytes hcells hslots hdg (fun q cA H1 hK hP hD hS => ?_)
  exact kk q H1 (kdropP hP) (kdropD hD) hS
theorem kclone {q0 n : Nat} {a index : Nat} {f : Nat → Int32} (hx : p.tables.exec = Jvm.exec) (hb : c.code = cc) (hml : c.maxLocals = ls.size) (hown : s.vm.findClass own = some m.cls)
    (hlink : Cond.methodLink own index ⟨"[I", "clone", "()Ljava/lang/Object;"⟩ ∈ kw) (hsame : Cond.sameMethod "[I" "java/lang/Object" "clone" "()Ljava/lang/Object;" ∈ kw) (hnat : Cond.native ⟨"java/lang/Object", "clone", "()Ljava/lang/Object;"⟩ ∈ kw) (hinst : Cond.instanceMethod ⟨"java/lang/Object", "clone", "()Ljava/lang/Object;"⟩ ∈ kw) (hsel : Cond.selects "[I" ⟨"[I", "clone", "()Ljava/lang/Object;"⟩ ⟨"java/lang/Object", "clone", "()Ljava/lang/Object;"⟩ ∈ kw) (hcl : Cond.castable "[I" "java/lang/Cloneable" ∈ kw)
    (G : GG g A s s.heap) (hP : va_P g.1 vwCl ws H) (hD : va_D A ws) (hS : va_S A s.heap H locs) (hA : ∀ q : Nat, s.heap.size ≤ q → A q) (ha : ws[q0]? = some (a, .inl (g.2.2.1 0, n, .inl f)))
    (hframes : 1 ≤ R.frames) (hlocals : (rest.map fun v => v.category).sum + 14 ≤ R.locals) (hcells : cells + 1 ≤ R.cells) (hslots : slots + n ≤ R.slots) (hdg : decode cc pc = .ok (.invokevirtual index, 3))
    (kk : ∀ (q : Nat) (H1 : Heap), va_P g.1 vwCl (ws ++ [(q, .inl (g.2.2.1 0, n, .inl f))]) H1 → va_D A (ws ++ [(q, .inl (g.2.2.1 0, n, .inl f))]) → va_S A s.heap H1 locs → W p l e R s m args below meth c H1 locs (cells + 1) (slots + n) Q (F0 m (pc + 3) ls (.ref q :: rest))) : W p l e R s m args below meth c H locs cells slots Q (F0 m pc ls (.ref a :: rest)) :=
  va_clone hx hb hml hown (G.w hlink) (G.w hsame) (G.w hnat) (G.w hinst) (G.w hsel) (G.nw hcl) G.K hP hD hS hA q0 0 ha rfl (kc0 G) (va_fit (fun i _ => rfl)) hframes hlocals hcells hslots hdg (fun q H1 _ hP hD hS => kk q H1 hP hD hS)
theorem kretF {v : UInt32} (K : KB p s m meth c own nm cc nL (some .float)) (hP : va_P g.1 vwCl ws H) (hD : va_D A ws) (hS : va_S A s.heap H locs) (isW : List Nat) (w1 : va_W) (hw : isW.map (fun i => ws[i]?) = w1.map some) (hn : va_nd isW = true) (hΦ : Φ (some (.float v)) w1) (hc : cells ≤ mc) (hs : slots ≤ ms) (hdg : decode cc pc = .ok (.freturn, 1)) :
    W p l e R s m args below meth c H locs cells slots (vx_MQ below (kQ g Φ A) (kX g X A) args s mc ms A) (F0 m pc ls [.float v]) := by
  obtain ⟨hx, hb, -, -, hlocks, hr, -⟩ := K
  refine W.widen hc hs (vx_ret ?_)
  exact W.fret hx hb hr (fun t ht hW => ⟨⟨_, w1, rfl, hΦ, by rw [ht]; exact ksubP hP isW hw, hD.sub isW hn hw⟩, hS.F ht⟩) hS.2.2 hdg hlocks
theorem kretD {v : UInt64} (K : KB p s m meth c own nm cc nL (some .double)) (hP : va_P g.1 vwCl ws H) (hD : va_D A ws) (hS : va_S A s.heap H locs) (isW : List Nat) (w1 : va_W) (hw : isW.map (fun i => ws[i]?) = w1.map some) (hn : va_nd isW = true) (hΦ : Φ (some (.double v)) w1) (hc : cells ≤ mc) (hs : slots ≤ ms) (hdg : decode cc pc = .ok (.dreturn, 1)) :
    W p l e R s m args below meth c H locs cells slots (vx_MQ below (kQ g Φ A) (kX g X A) args s mc ms A) (F0 m pc ls [.double v]) := by
  obtain ⟨hx, hb, -, -, hlocks, hr, -⟩ := K
  refine W.widen hc hs (vx_ret ?_)
  exact W.dret hx hb hr (fun t ht hW => ⟨⟨_, w1, rfl, hΦ, by rw [ht]; exact ksubP hP isW hw, hD.sub isW hn hw⟩, hS.F ht⟩) hS.2.2 hdg hlocks
theorem ksld {b L j : Nat} {xs : Nat → Int32} (hx : p.tables.exec = Jvm.exec) (hb : c.code = cc) (hX : va_X b L xs s s.heap) (hbl : b < s.heap.size) (hbA : ¬ A b) (hS : va_S A s.heap H locs) {i : Int32} (hin : vp_in i L) (hj : i.toNatClampNeg = j) (hdg : decode cc pc = .ok (.iaload, 1))
    (kk : W p l e R s m args below meth c H locs cells slots Q (F0 m (pc + 1) ls (.int (xs j) :: rest))) : W p l e R s m args below meth c H locs cells slots Q (F0 m pc ls (.int i :: .ref b :: rest)) := by
  subst hj
  exact va_sld hx hb hX hbl hbA hS hin hdg kk
end KROWS3
/-- what i2c makes -/
def kchr (x : Int32) : Int32 := (x.toUInt32 % 65536).toInt32
theorem kb_at {k : Int32} (j : Nat) (hj : j < 128) (hk : k = nI j) (x : Int32) (h0 : ¬ x < 0) (h1 : x ≤ 255) : x.toInt8.toInt32 = k ↔ x = k := by
  obtain ⟨n, hn, rfl⟩ := nI_of2 (n := 255) (by decide) h0 h1
  subst hk
  have key : ∀ n : Fin 256, ∀ j : Fin 128, ((nI n).toInt8.toInt32 = nI j ↔ nI n = nI j) := by decide +kernel
  exact key ⟨n, by omega⟩ ⟨j, hj⟩
theorem inR_no (x : Int32) : ¬ (¬ x < 0 ∧ x ≤ -1) := fun h => h.1 (Int32.lt_of_le_of_lt h.2 (by decide))
theorem kz_nar2 {v : Int32} (h : v = 0 ∨ v = 1) : narrow .boolean (.int v) = .int v := by
  rcases h with rfl | rfl <;> rfl
theorem kz_fit2 {v : Int32} (h : v = 0 ∨ v = 1) : fits .boolean (.int v) = true := by
  rcases h with rfl | rfl <;> rfl
theorem kz_if {c : Prop} [Decidable c] {a b : Int32} (ha : a = 0 ∨ a = 1) (hb : b = 0 ∨ b = 1) : (if c then a else b) = 0 ∨ (if c then a else b) = 1 := by
  by_cases h : c
  · rw [if_pos h]; exact ha
  · rw [if_neg h]; exact hb
section KNEST
variable {p : Program} {l : Launch} {e : Env} {R : Room} {s : State} {m : MethodId} {args : Array Value} {below : List Frame} {meth : Method} {c : Code} {T : State} {H : Heap} {locs : List Loc} {cells slots : Nat} {Q : State → Prop}
theorem kx_callSN (X : Stand p l e R s m args below meth c T locs cells slots) (hexec : p.tables.exec = Jvm.exec) {own : String} {index : Nat} {host : String} {y : MethodName} {bytes : ByteArray} {maxL : Nat} {ret : Option FieldType}
    (hown : s.vm.findClass own = some m.cls) (hlink : (Cond.methodLinkNest own index y host).before args s = true) (hstat : (Cond.static y).before args s = true) (hinit : (Cond.initialized y.cls).before args s = true)
    (hcode : (Cond.code y bytes maxL ret).before args s = true) (hy : y.cls ≠ "java/lang/invoke/MethodHandle" ∧ y.cls ≠ "java/lang/invoke/VarHandle")
    {W9 : Nat} {Pre : Pt → Array Value → Prop} {Post : Pt → Array Value → Option Value → Pt → Prop} {PostX : Pt → Array Value → Addr → Pt → Prop} (hK : vx_Back l R p e below s args y 3 W9 Pre Post PostX)
    {g : JFrame} (hg : g.method = m) (hsize : g.locals.size = c.maxLocals) {argsL rest : List Value} (hlen : ∀ sig, parseMethodDescriptor y.desc = some sig → argsL.length = sig.parameters.length)
    (hstack : g.stack = argsL.reverse ++ rest) (hW : 2 * g.monitorRoom + (rest.map fun v => v.category).sum ≤ W9) (hdg : decode c.code g.pc = .ok (.invokestatic index, 3))
    (hpre : ∀ vm₁, s.WarmedH vm₁ → Pre ⟨T.setVm vm₁, locs, cells, slots⟩ argsL.toArray) :
    (∃ (v : Option Value) (vm₁ : Vm) (B : Pt), s.WarmedH vm₁ ∧ Stand p l e R s m args below meth c B.U B.locs B.cells B.slots ∧ Post ⟨T.setVm vm₁, locs, cells, slots⟩ argsL.toArray v B ∧
      ∀ target, Steps p.tables e below (B.U.setTop { g with pc := g.pc + 3, stack := v.toList ++ rest }) target → Steps p.tables e below (T.setTop g) target) ∨
    (∃ (q : Addr) (vm₁ : Vm) (B : Pt), s.WarmedH vm₁ ∧ Stand p l e R s m args below meth c B.U B.locs B.cells B.slots ∧ PostX ⟨T.setVm vm₁, locs, cells, slots⟩ argsL.toArray q B ∧
      Steps p.tables e below (T.setTop g) ((B.U.setTop { g with stack := rest }).pushFrame (.throwing q))) := by
  obtain ⟨mk, hnamed⟩ := Cond.code_named hcode
  obtain ⟨methM, cM, hmethM, -, -, -, -, -, -, hsigM⟩ := Cond.code_spec hnamed hcode
  have hstatic : methM.isStatic = true := Cond.static_spec hnamed hmethM hstat
  obtain ⟨kP, hkP, -⟩ := className_of_methodNamed hnamed
  have hinitP : kP.init = .initialized := Cond.initialized_spec (findClass_of_methodNamed hnamed) hkP hinit
  obtain ⟨vm₁, X₁, hstep₁⟩ := X.invokestaticNest hexec hown hlink hnamed hmethM hstatic hkP hinitP hy (g := g) hg (argsL := argsL) (rest := rest) (hlen _ hsigM) hstack hdg
  rcases hK m meth c ⟨T.setVm vm₁, locs, cells, slots⟩ { g with stack := rest } (.invokestatic index) mk argsL.toArray X₁ hg hsize hdg hW (X₁.named hnamed) (hpre vm₁ X₁.warmed) with ⟨v, B, X', hpost, hsteps⟩ | ⟨q, B, X', hpost, hsteps⟩
  · exact Or.inl ⟨v, vm₁, B, X₁.warmed, X', hpost, fun target h => hstep₁ _ fun acts => by rw [doInvoke_state]; exact hsteps.trans h⟩
  · exact Or.inr ⟨q, vm₁, B, X₁.warmed, X', hpost, hstep₁ _ fun acts => by rw [doInvoke_state]; exact hsteps⟩
variable {g : kG} {A : Nat → Prop} {own nm host : String} {cc : ByteArray} {nL : Nat} {ret0 : Option FieldType} {ws wc wr : va_W} {pc : Nat} {ls : Array Slot} {st0 rest : List Value}
variable {y : MethodName} {bytes : ByteArray} {maxL index : Nat} {ret : Option FieldType} {fr lo mc ms : Nat} {Φ : Option Value → va_W → Prop} {X : String → va_W → Prop} {lv : List (Nat × Value)}
theorem kcallSN {n : Nat} {As : List Value} (K : KB p s m meth c own nm cc nL ret0) (G : GG g A s s.heap) (hM : kc l g y bytes maxL ret fr lo mc ms As wc Φ X)
    (hP : va_P g.1 vwCl ws H) (hD : va_D A ws) (hS : va_S A s.heap H locs) (hA : ∀ q : Nat, s.heap.size ≤ q → A q) (hl : lv_has ls nL lv)
    (hwc : Cond.code y bytes maxL ret ∈ kw) (hwl : Cond.methodLinkNest own index y host ∈ kw) (hwst : Cond.static y ∈ kw) (hwin : Cond.initialized y.cls ∈ kw)
    (hd : (y.cls ≠ "java/lang/invoke/MethodHandle" ∧ y.cls ≠ "java/lang/invoke/VarHandle") ∧ (parseMethodDescriptor y.desc).map (fun d => d.parameters.length) = some n)
    (isC isR : List Nat) (hC : isC.map (fun i => ws[i]?) = wc.map some) (hR : isR.map (fun i => ws[i]?) = wr.map some) (hn : va_nd isR = true) (hnC : va_nd isC = true) (hdis : ∀ i ∈ isR, i ∉ isC)
    (hlen : As.length = n) (hst : st0 = As.reverse ++ rest) (hW : (rest.map fun v => v.category).sum ≤ 8) (hdg : decode cc pc = .ok (.invokestatic index, 3)) (hRm : fr + 1 ≤ R.frames ∧ 8 + (maxL + 11) + lo ≤ R.locals) (hf : cells + mc ≤ R.cells ∧ slots + ms ≤ R.slots)
    (kx : kOut p l e R s m args below meth c (cells + mc) (slots + ms) Q g A wr X pc ls rest) (kk : kNext p l e R s m args below meth c (cells + mc) (slots + ms) Q g A wr Φ (pc + 3) ls rest) :
    W p l e R s m args below meth c H locs cells slots Q (F0 m pc ls st0) := by
  obtain ⟨hx, hb, hml, hown, -⟩ := K
  subst hst
  obtain ⟨hd1, hd2⟩ := hd
  have hlen2 : ∀ sig, parseMethodDescriptor y.desc = some sig → n = sig.parameters.length := fun sig h => by rw [h] at hd2; exact (Option.some.inj hd2).symm
  refine kcall_core (a := As.toArray) ?_ hP hD hS hA isC isR hC hR hn hdis kx kk
  have hp := kpre G hP hD hS hA isC hC hnC (av := As)
  have hK : vx_Back l R p e below s args y 3 8 (PreOf R mc ms (kPc g As wc H.size)) (PostOf (kQ g Φ (va_A wc H.size)) mc ms (va_A wc H.size)) (vx_Post (kX g X (va_A wc H.size)) mc ms (va_A wc H.size)) :=
    vx_back (bytes := bytes) (maxL := maxL) (ret := ret) (hM H.size) kPc_blind rfl rfl hRm.1 hRm.2 (fun w hw a' U hW' => by rw [List.mem_singleton.mp hw]; exact word_at hW' (Or.inl rfl) (G.w (args := args) hwc)) (List.mem_singleton.mpr rfl) (fun a' U hW => word_at hW (Or.inl rfl) (G.w (args := args) hwin))
  intro T hT X
  rcases kx_callSN X hx (bytes := bytes) (maxL := maxL) (ret := ret) hown (G.w hwl) (G.w hwst) (G.w hwin) (G.w hwc) hd1 hK (g := F0 m pc ls (As.reverse ++ rest)) rfl (hl.1.trans hml.symm) (argsL := As) (rest := rest) (fun sig h => hlen.trans (hlen2 sig h)) rfl (lv_room hW) (by rw [hb]; exact hdg)
    (fun vm₁ hW₁ => ⟨hf.1, hf.2, hp (T.setVm vm₁) hT hW₁⟩) with ⟨v, vm₁, ⟨U', l2, c2, s2⟩, hW₁, X', ⟨g', mk, t, L, e1, e2, hq, h1, hL, h2, h3⟩, st⟩ | ⟨q, vm₁, ⟨U', l2, c2, s2⟩, hW₁, X', ⟨g', mk, t, L, E, ce, e1, e2, hq, hce, hcv, hcl, h1, hL, h2, h3⟩, st⟩
  · dsimp only [Pt.U, Pt.locs, Pt.cells, Pt.slots] at X' e1 e2 h1 h2 h3 st
    subst h1; subst h2; subst h3
    exact Or.inl ⟨v, (T.setVm vm₁).calling g' mk As.toArray, t, U', L, hT, X', hL, e1, e2, hq, st⟩
  · dsimp only [Pt.U, Pt.locs, Pt.cells, Pt.slots] at X' e1 e2 h1 h2 h3 st hcl
    subst h1; subst h2; subst h3
    exact Or.inr ⟨q, (T.setVm vm₁).calling g' mk As.toArray, t, U', L, E, ce, hT, X', hL, e1, e2, hq, hce, hcv, vx_cls hW₁ hcl, st⟩
end KNEST
theorem kaaldO {p : Program} {l : Launch} {e : Env} {R : Room} {s : State} {m : MethodId} {args : Array Value} {below : List Frame} {meth : Method} {c : Code} {H : Heap} {locs : List Loc} {cells slots : Nat} {Q : State → Prop} {g : kG} {A : Nat → Prop} {cc : ByteArray} {ws : va_W} {pc : Nat} {ls : Array Slot} {rest : List Value} {q0 n v : Nat} {a : Nat} {f : Nat → Option Nat} (hx : p.tables.exec = Jvm.exec) (hb : c.code = cc) (G : GG g A s s.heap) (hP : va_P g.1 vwCl ws H) (ha : ws[q0]? = some (a, .inl (g.2.2.1 4, n, .inr (.inr (.inr (.inr f)))))) {i : Int32} (hin : vp_in i n) (hv : f i.toNatClampNeg = some v) (hdg : decode cc pc = .ok (.aaload, 1))
    (kk : W p l e R s m args below meth c H locs cells slots Q (F0 m (pc + 1) ls (.ref v :: rest))) : W p l e R s m args below meth c H locs cells slots Q (F0 m pc ls (.int i :: .ref a :: rest)) := by
  refine va_aldq (C := "java/lang/Object") hx hb G.K hP q0 4 ha rfl hin hdg ?_
  rw [hv]
  exact kk

section KARR
variable {p : Program} {l : Launch} {e : Env} {R : Room} {s : State} {m : MethodId} {args : Array Value} {below : List Frame} {meth : Method} {c : Code} {H : Heap} {locs : List Loc} {cells slots : Nat} {Q : State → Prop} {g : kG} {A : Nat → Prop} {cc : ByteArray} {ws : va_W} {pc : Nat} {ls : Array Slot} {rest : List Value} {a : Nat}
theorem kiast (hx : p.tables.exec = Jvm.exec) (hb : c.code = cc) (G : GG g A s s.heap) (hP : va_P g.1 vwCl ws H) (hD : va_D A ws) (hS : va_S A s.heap H locs) (q0 : Nat) {n : Nat} {f f' : Nat → Int32} (ha : ws[q0]? = some (a, .inl (g.2.2.1 0, n, .inl f))) {i : Int32} {x : Int32} (hin : vp_in i n) (hup : upd f i.toNatClampNeg x = f') (hdg : decode cc pc = .ok (.iastore, 1))
    (kk : ∀ (H1 : Heap) (locs1 : List Loc), va_P g.1 vwCl (ws.set q0 (a, .inl (g.2.2.1 0, n, .inl f'))) H1 → va_D A (ws.set q0 (a, .inl (g.2.2.1 0, n, .inl f'))) → va_S A s.heap H1 locs1 → W p l e R s m args below meth c H1 locs1 cells slots Q (F0 m (pc + 1) ls rest)) : W p l e R s m args below meth c H locs cells slots Q (F0 m pc ls (.int x :: .int i :: .ref a :: rest)) := by
  subst hup
  exact va_iast hx hb G.K hP hD hS q0 0 ha rfl hin hdg kk
theorem kzast (hx : p.tables.exec = Jvm.exec) (hb : c.code = cc) (G : GG g A s s.heap) (hP : va_P g.1 vwCl ws H) (hD : va_D A ws) (hS : va_S A s.heap H locs) (q0 : Nat) {n : Nat} {f f' : Nat → Int32} (ha : ws[q0]? = some (a, .inl (g.2.2.1 2, n, .inl f))) {i : Int32} {x : Int32} (hin : vp_in i n) (hz : x = 0 ∨ x = 1) (hup : upd f i.toNatClampNeg x = f') (hdg : decode cc pc = .ok (.bastore, 1))
    (kk : ∀ (H1 : Heap) (locs1 : List Loc), va_P g.1 vwCl (ws.set q0 (a, .inl (g.2.2.1 2, n, .inl f'))) H1 → va_D A (ws.set q0 (a, .inl (g.2.2.1 2, n, .inl f'))) → va_S A s.heap H1 locs1 → W p l e R s m args below meth c H1 locs1 cells slots Q (F0 m (pc + 1) ls rest)) : W p l e R s m args below meth c H locs cells slots Q (F0 m pc ls (.int x :: .int i :: .ref a :: rest)) := by
  have hn : vp_nar .boolean x = x := by rcases hz with rfl | rfl <;> rfl
  rw [← hn] at hup
  subst hup
  exact va_zast hx hb G.K hP hD hS q0 2 ha rfl hin hdg kk
theorem kiald (hx : p.tables.exec = Jvm.exec) (hb : c.code = cc) (G : GG g A s s.heap) (hP : va_P g.1 vwCl ws H) (q0 : Nat) {n : Nat} {f : Nat → Int32} (ha : ws[q0]? = some (a, .inl (g.2.2.1 0, n, .inl f))) {i : Int32} {v : Int32} (hin : vp_in i n) (hv : f i.toNatClampNeg = v) (hdg : decode cc pc = .ok (.iaload, 1))
    (kk : W p l e R s m args below meth c H locs cells slots Q (F0 m (pc + 1) ls (.int v :: rest))) : W p l e R s m args below meth c H locs cells slots Q (F0 m pc ls (.int i :: .ref a :: rest)) := by
  subst hv
  exact va_iald hx hb G.K hP q0 0 ha rfl hin hdg kk
theorem kzald (hx : p.tables.exec = Jvm.exec) (hb : c.code = cc) (G : GG g A s s.heap) (hP : va_P g.1 vwCl ws H) (q0 : Nat) {n : Nat} {f : Nat → Int32} (ha : ws[q0]? = some (a, .inl (g.2.2.1 2, n, .inl f))) {i : Int32} {v : Int32} (hin : vp_in i n) (hv : f i.toNatClampNeg = v) (hdg : decode cc pc = .ok (.baload, 1))
    (kk : W p l e R s m args below meth c H locs cells slots Q (F0 m (pc + 1) ls (.int v :: rest))) : W p l e R s m args below meth c H locs cells slots Q (F0 m pc ls (.int i :: .ref a :: rest)) := by
  subst hv
  exact va_zald hx hb G.K hP q0 2 ha rfl hin hdg kk
end KARR
/-- the law's arrays of two and of three -/
def kA2 (a b : Int32) : Nat → Int32 := fun i => if i = 0 then a else if i = 1 then b else 0
def kA3 (a b c : Int32) : Nat → Int32 := fun i => if i = 0 then a else if i = 1 then b else if i = 2 then c else 0
theorem kA2_n : (fun _ : Nat => (0 : Int32)) = kA2 0 0 := by funext i; simp [kA2]
theorem kA3_n : (fun _ : Nat => (0 : Int32)) = kA3 0 0 0 := by funext i; simp [kA3]
theorem kA2_0 {a b x y : Int32} (h : x = y) : upd (kA2 a b) (0 : Int32).toNatClampNeg x = kA2 y b := by
  subst h; funext i; show upd (kA2 a b) 0 x i = _; by_cases h0 : i = 0 <;> simp [upd, kA2, h0]
theorem kA2_1 {a b x y : Int32} (h : x = y) : upd (kA2 a b) (1 : Int32).toNatClampNeg x = kA2 a y := by
  subst h; funext i; show upd (kA2 a b) 1 x i = _
  by_cases h0 : i = 0
  · subst h0; simp [upd, kA2]
  · by_cases h1 : i = 1 <;> simp [upd, kA2, h0, h1]
theorem kA3_0 {a b c x y : Int32} (h : x = y) : upd (kA3 a b c) (0 : Int32).toNatClampNeg x = kA3 y b c := by
  subst h; funext i; show upd (kA3 a b c) 0 x i = _; by_cases h0 : i = 0 <;> simp [upd, kA3, h0]
theorem kA3_1 {a b c x y : Int32} (h : x = y) : upd (kA3 a b c) (1 : Int32).toNatClampNeg x = kA3 a y c := by
  subst h; funext i; show upd (kA3 a b c) 1 x i = _
  by_cases h0 : i = 0
  · subst h0; simp [upd, kA3]
  · by_cases h1 : i = 1 <;> simp [upd, kA3, h0, h1]
theorem kA3_2 {a b c x y : Int32} (h : x = y) : upd (kA3 a b c) (2 : Int32).toNatClampNeg x = kA3 a b y := by
  subst h; funext i; show upd (kA3 a b c) 2 x i = _
  by_cases h0 : i = 0
  · subst h0; simp [upd, kA3]
  · by_cases h1 : i = 1
    · subst h1; simp [upd, kA3]
    · by_cases h2 : i = 2 <;> simp [upd, kA3, h0, h1, h2]
theorem krem {a n : Int32} (ha : ¬ a < 0) (hn : 0 < n) : ¬ (a - a / n * n) < 0 ∧ (a - a / n * n) < n := by
  have z : (0 : Int32).toInt = 0 := by decide
  have ha' : 0 ≤ a.toInt := by have := Int32.le_iff_toInt_le.mp (Int32.not_lt.mp ha); rwa [z] at this
  have hn' : 0 < n.toInt := by have := Int32.lt_iff_toInt_lt.mp hn; rwa [z] at this
  have hu : a.toInt < 2147483648 := by have := Int32.toInt_lt a; simpa using this
  have b1 : 0 ≤ a.toInt / n.toInt := Int.ediv_nonneg ha' (by omega)
  have b2 : a.toInt / n.toInt ≤ a.toInt := Int.ediv_le_self _ ha'
  have b3 : a.toInt / n.toInt * n.toInt ≤ a.toInt := Int.ediv_mul_le _ (by omega)
  have b4 : 0 ≤ a.toInt / n.toInt * n.toInt := Int.mul_nonneg b1 (by omega)
  have sm : ∀ z : Int, 0 ≤ z → z < 2147483648 → z.bmod (2 ^ 32) = z := fun z h1 h2 => Int.bmod_eq_of_le (by omega) (by omega)
  have e : (a - a / n * n).toInt = a.toInt - a.toInt / n.toInt * n.toInt := by
    rw [Int32.toInt_sub, Int32.toInt_mul, Int32.toInt_div, Int.tdiv_eq_ediv_of_nonneg ha', sm _ b1 (by omega), sm _ b4 (by omega), sm _ (by omega) (by omega)]
  have e2 : a.toInt - a.toInt / n.toInt * n.toInt = a.toInt % n.toInt := by rw [Int.emod_def, Int.mul_comm]
  have b5 := Int.emod_nonneg a.toInt (show n.toInt ≠ 0 by omega)
  have b6 := Int.emod_lt_of_pos a.toInt hn'
  refine ⟨fun h => ?_, Int32.lt_iff_toInt_lt.mpr (by rw [e, e2]; exact b6)⟩
  have := Int32.lt_iff_toInt_lt.mp h
  rw [e, e2, z] at this
  omega
theorem kand31 (x : Int32) : ¬ (x &&& 2147483647) < 0 := by
  obtain ⟨j, hj, ej⟩ := pk_andE x (m := 2147483647) 31 (by decide)
  rw [ej]
  intro h
  have := Int32.lt_iff_toInt_lt.mp h
  rw [show (0 : Int32).toInt = 0 from by decide, nI_toInt (by omega)] at this
  omega
def wchar (i : Int32) : Int32 := if i = 0 then 110 else if i = 1 then 101 else if i = 2 then 115 else 119
def bchar (i : Int32) : Int32 := if i = 0 then 115 else if i = 1 then 109 else 114
