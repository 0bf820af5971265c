section TXa
/-- an end of any kind: the tables are warmer; nothing has moved but frames, the slots L, and at most k new cells of n slots -/
def tx_End (st t : State) (L : List Loc) (k n : Nat) : Prop := st.WarmedH t.vm ∧ st.sameButNew ({ t with vm := st.vm } : State) L k n
/-- a contract whose method returns or throws -/
def tx_Met (l : Launch) (y : MethodName) (ws : List Cond) (rm : Room) (Pc : Array Value → State → Prop) (Qc : Array Value → State → Outcome → State → Prop) (mc ms : Nat) (free : Addr → Prop) : Prop :=
  MetFree l y (headSpec ws rm) Pc (fun _ _ _ _ _ => True) (fun a st o t => Qc a st o t ∧ ∃ L, tx_End st t L mc ms ∧ ∀ q ∈ L, free q.base)
def tx_MQ (below : List Frame) (Qc : Array Value → State → Outcome → State → Prop) (a : Array Value) (s : State) (mc ms : Nat) (free : Addr → Prop) : State → Prop := fun t =>
  ∃ o, t.status = .running ∧ Ended t below o ∧ Qc a s o t ∧ ∃ L, tx_End s t L mc ms ∧ ∀ q ∈ L, free q.base
/-- the machine with the note 'x is thrown' over the frame g comes to a state with Q -/
def tx_T (p : Program) (l : Launch) (e : Env) (R : Room) (s : State) (m : MethodId) (args : Array Value) (below : List Frame) (meth : Method) (c : Code) (H : Heap) (locs : List Loc) (cells slots : Nat) (Q : State → Prop) (g : JFrame) (x : Addr) : Prop :=
  ∀ T : State, T.heap = H → Stand p l e R s m args below meth c T locs cells slots → ∃ t, Steps p.tables e below ((T.setTop g).pushFrame (.throwing x)) t ∧ Q t
/-- an exception's cell: of the class of that name -/
def tx_Is (s : State) (cls : String) (H : Heap) (x : Addr) : Prop := ∃ cell : Cell, H[x]? = some cell ∧ s.vm.findClass cls = some cell.cls ∧ cell.vm = .none
variable {p : Program} {l : Launch} {e : Env} {R : Room} {s : State} {m : MethodId} {args : Array Value} {below : List Frame} {meth : Method} {c : Code} {H : Heap} {locs : List Loc} {cells slots : Nat} {Q : State → Prop}
theorem tx_of {Qc : Array Value → State → Outcome → State → Prop} {mc ms : Nat} {free : Addr → Prop} {g : JFrame} (h : W p l e R s m args below meth c H locs cells slots (MQ below Qc args s mc ms free) g) : W p l e R s m args below meth c H locs cells slots (tx_MQ below Qc args s mc ms free) g := by
  intro T hT X
  obtain ⟨t, a, o, b1, b2, b3, L, ⟨-, f1, f2⟩, f3⟩ := h T hT X
  exact ⟨t, a, o, b1, b2, b3, L, ⟨f1, f2⟩, f3⟩
theorem tx_ofW {y : MethodName} {ws ws' : List Cond} {rm : Room} {Pc : Array Value → State → Prop} {Qc : Array Value → State → Outcome → State → Prop} {mc ms : Nat} {free : Addr → Prop} {cc : ByteArray} {maxL : Nat} {ret : Option FieldType}
    (hy : plainName y.cls = true) (hw : ws = Cond.code y cc maxL ret :: ws')
    (body : ∀ p e s m args below meth c s₁, BodyLoose p l y (headSpec ws rm) cc maxL ret e s m args below meth c s₁ → c.maxLocals = maxL → Pc args s →
      W p l e (headSpec ws rm).room s m args below meth c s.heap [] 0 0 (tx_MQ below Qc args s mc ms free) (entryFrame m args maxL)) : tx_Met l y ws rm Pc Qc mc ms free := by
  refine MetFree.of_bodyS (code := cc) (maxLocals := maxL) (ret := ret) hy ?_ ?_
  · intro args s m h hn
    obtain ⟨meth, c, h1, h2, h3, h4, h5, h6, -, -⟩ := Cond.code_spec hn (atoms_spec (ws := ws) h _ (by rw [hw]; exact List.mem_cons_self))
    exact ⟨meth, c, h1, h2, h3, h4, h5, h6⟩
  · intro p e s m args below meth c s₁ B hml hP _
    have hh0 : s₁.heap = s.heap := by rw [B.state]; rfl
    obtain ⟨t, a1, o, b1, b2, b3⟩ := body p e s m args below meth c s₁ B hml hP s₁ hh0 (Stand.of_body B)
    exact ⟨t, o, a1, b1, b2, ⟨b3.1, b3.2⟩⟩
/-- a method with handlers that always returns -/
theorem tx_ofWH {y : MethodName} {ws ws' : List Cond} {rm : Room} {Pc : Array Value → State → Prop} {Qc : Array Value → State → Outcome → State → Prop} {mc ms : Nat} {free : Addr → Prop} {cc : ByteArray} {maxL : Nat} {ret : Option FieldType} {hs : List (Nat × Nat × Nat × Nat)}
    (hy : plainName y.cls = true) (hw : ws = Cond.codeWith y cc maxL ret hs :: ws')
    (body : ∀ p e s m args below meth c s₁, BodyLoose p l y (headSpec ws rm) cc maxL ret e s m args below meth c s₁ → c.maxLocals = maxL → c.exceptionTable.toList = tableOf hs → Pc args s →
      W p l e (headSpec ws rm).room s m args below meth c s.heap [] 0 0 (tx_MQ below Qc args s mc ms free) (entryFrame m args maxL)) : tx_Met l y ws rm Pc Qc mc ms free := by
  refine MetFree.of_bodyS (code := cc) (maxLocals := maxL) (ret := ret) hy ?_ ?_
  · intro args s m h hn
    obtain ⟨m', meth, c, h0, h1, h2, h3, h4, -, h5, h6, -⟩ := Cond.codeWith_spec (atoms_spec (ws := ws) h _ (by rw [hw]; exact List.mem_cons_self))
    cases hn.symm.trans h0
    exact ⟨meth, c, h1, h2, h3, h4, h5, h6⟩
  · intro p e s m args below meth c s₁ B hml hP _
    have hh0 : s₁.heap = s.heap := by rw [B.state]; rfl
    have htab : c.exceptionTable.toList = tableOf hs := by
      obtain ⟨m', meth', c', h0, h1, h2, h3, h4, ht, h5, h6, -⟩ := Cond.codeWith_spec (atoms_spec (ws := ws) B.pre _ (by rw [hw]; exact List.mem_cons_self))
      cases B.named.symm.trans h0
      cases B.method.symm.trans h1
      cases (Stand.of_body B).code.symm.trans h2
      rw [← ht, table_eq]
    obtain ⟨t, a1, o, b1, b2, b3⟩ := body p e s m args below meth c s₁ B hml htab hP s₁ hh0 (Stand.of_body B)
    exact ⟨t, o, a1, b1, b2, ⟨b3.1, b3.2⟩⟩
/-- the exception leaves the method -/
theorem tx_leave {Qc : Array Value → State → Outcome → State → Prop} {free : Addr → Prop} {pc : Nat} {ls : Array Slot} {st : List Value} {x : Addr} (hlocks : meth.locks = false) (hout : ∀ y ∈ c.exceptionTable.toList, covers y pc = false)
    (hq : ∀ t : State, t.heap = H → s.WarmedH t.vm → Qc args s (.threw x) t) (hf : ∀ q ∈ locs, free q.base) :
    tx_T p l e R s m args below meth c H locs cells slots (tx_MQ below Qc args s cells slots free) (F0 m pc ls st) x := by
  intro T hT X
  obtain ⟨h1, h2, h3, h4, h5⟩ := X.leaveThrown x (g := F0 m pc ls st) rfl rfl rfl hout hlocks
  exact ⟨_, h1, .threw x, h2, h3, hq _ hT h4, locs, ⟨h4, h5⟩, hf⟩
/-- new X; dup; X.<init>(); athrow, in a method without handlers -/
theorem tx_new {cc : ByteArray} {Qc : Array Value → State → Outcome → State → Prop} {free : Addr → Prop} (hfl : l.flags = pinnedFlags ++ [noTraceFlag]) (hexec : p.tables.exec = Jvm.exec) (hb : c.code = cc) {own cls : String} {names : List String} {ic index : Nat} (hown : s.vm.findClass own = some m.cls)
    (hclink : (Cond.classLink own index cls).before args s = true) (hins : (Cond.instantiable cls 6).before args s = true) (hinit : (Cond.initialized cls).before args s = true)
    (hcls : Bundle.fit cls = true) (hnames : ∀ n ∈ names, Bundle.fit n = true) (h : ∀ a ∈ Bundle.ownAtoms0 own ic cls names, a.before args s = true) (hlocks : meth.locks = false) (hout : c.exceptionTable.toList = [])
    {pc : Nat} {ls : Array Slot} {rest : List Value} (hsize : ls.size = c.maxLocals)
    (hd0 : decode cc pc = .ok (.new index, 3)) (hd3 : decode cc (pc + 3) = .ok (.dup, 1)) (hd4 : decode cc (pc + 4) = .ok (.invokespecial ic, 3)) (hd7 : decode cc (pc + 7) = .ok (.athrow, 1))
    (hRframes : names.length + 3 < R.frames) (hRlocals : ((rest.map fun v => v.category).sum + 1) + (13 * (names.length + 1) + 41) ≤ R.locals) (hcells : cells + 1 ≤ R.cells) (hslots : slots + 6 ≤ R.slots)
    (hq : ∀ (x : Addr) (t : State), s.heap.size ≤ t.heap.size → (∀ q, q < s.heap.size → t.heap[q]? = s.heap[q]?) → s.WarmedH t.vm → tx_Is s cls t.heap x → Qc args s (.threw x) t) :
    W p l e R s m args below meth c H [] cells slots (tx_MQ below Qc args s (cells + 1) (slots + 6) free) (F0 m pc ls rest) := by
  intro T0 hT0 X0
  have hnew : s.heap.size ≤ H.size := by
    have h1 : s.heap.size ≤ T0.heap.size := X0.same.2.1
    rw [hT0] at h1
    exact h1
  refine (W.newc hexec hb hown hclink hins hinit (g := F0 m pc ls rest) rfl hd0 hcells hslots (fun cC kC hfc hkC hkind hsz => ?_)) T0 hT0 X0
  refine W.eq (g2 := F0 m (pc + 3) ls (.ref H.size :: rest)) rfl ?_
  refine lv_dup hexec hb hd3 rfl ?_
  intro T hT X
  obtain ⟨U, h1, h2, h3, h4, h5, ce, h6, h7⟩ := X.ctorThrow0 hexec (Launch.traces_off hfl X.admits) hown hcls hnames h (fun x hx => by cases hx) (a := H.size) hfc hkC
    (by rw [hT]; simp) hnew (g := F0 m (pc + 3 + 1) ls (.ref H.size :: .ref H.size :: rest)) rfl hsize rfl rfl rfl (by rw [hb]; exact hd4) (by rw [hb]; exact hd7) (by rw [hout]; intro y hy; cases hy) hRframes
    (by simp [Value.category] at hRlocals ⊢; omega) hlocks
  refine ⟨U, h1, .threw H.size, h2, h3, hq H.size U h5.2.1 ?_ h4 ⟨ce, h6, h7.cls, h7.vm⟩, [], ⟨h4, h5⟩, fun q hq => by cases hq⟩
  intro q hq
  obtain ⟨cell, hcell⟩ : ∃ cell, s.heap[q]? = some cell := ⟨_, Array.getElem?_eq_getElem hq⟩
  rw [hcell]
  exact h5.old_cell hcell
end TXa
section TXb
variable {p : Program} {l : Launch} {e : Env} {R : Room} {s : State} {m : MethodId} {args : Array Value} {below : List Frame} {meth : Method} {c : Code} {H : Heap} {locs : List Loc} {cells slots : Nat} {Q : State → Prop}
def tx_Run (p : Program) (l : Launch) (e : Env) (R : Room) (s : State) (m : MethodId) (args : Array Value) (below : List Frame) (meth : Method) (c : Code) (H : Heap) (locs : List Loc) (cells slots mc ms : Nat) (g : JFrame) (rest : List Value) (Qa : State → Outcome → State → Prop) (free : Addr → Prop) : Prop :=
  ∀ T : State, T.heap = H → Stand p l e R s m args below meth c T locs cells slots → ∃ (o : Outcome) (st₀ t T' : State) (L : List Loc), st₀.heap = H ∧ s.vm.Alike st₀.vm ∧ Stand p l e R s m args below meth c T' (locs ++ L) (cells + mc) (slots + ms) ∧ (∀ q ∈ L, free q.base) ∧ T'.heap = t.heap ∧ T'.vm = t.vm ∧ Qa st₀ o t ∧
    ((∃ v, o = .returned v ∧ Goes p e below T g T' { g with pc := g.pc + 3, stack := v.toList ++ rest }) ∨
     (∃ x, o = .threw x ∧ Steps p.tables e below (T.setTop g) ((T'.setTop { g with stack := rest }).pushFrame (.throwing x))))
variable {y : MethodName} {bytes cc : ByteArray} {maxL nL mc ms n index : Nat} {ret : Option FieldType} {ws : List Cond} {rm : Room} {Pc : Array Value → State → Prop} {Qc : Array Value → State → Outcome → State → Prop} {free : Addr → Prop} {Ts : List Cond} {own C : String} {b : Addr} {As rest : List Value} {g : JFrame}
theorem tx_setTop_heap (T : State) (g : JFrame) : (T.setTop g).heap = T.heap := by simp [State.setFrames, State.setTop, State.modifyTopJava]
theorem tx_setTop_vm (T : State) (g : JFrame) : (T.setTop g).vm = T.vm := by simp [State.setFrames, State.setTop, State.modifyTopJava]
theorem tx_go {T : State} (X : Stand p l e R s m args below meth c T locs cells slots) (hM : tx_Met l y ws rm Pc Qc mc ms free) (hbl : FrameBlind Pc) (hrc : rm.cells = mc) (hrs : rm.slots = ms) (hframes : rm.frames + 1 ≤ R.frames) (hlocals : 8 + (maxL + 11) + rm.locals ≤ R.locals)
    (hws : ∀ w ∈ ws, ∀ (a' : Array Value) (U : State), s.WarmedH U.vm → w.before a' U = true) {mk : MethodId} {methY : Method} {cY : Code} {kY : Class} {a : Array Value} (hn : T.methodNamed? y = some mk) (hmY : T.vm.method? mk = some methY) (hcY : methY.code = some cY) (hlY : cY.maxLocals = maxL) (hkY : T.vm.classes[mk.cls]? = some kY) (hiY : kY.init = .initialized)
    (hg : g.method = m) (hsize : g.locals.size = c.maxLocals) {ig : Instr} (hdg : decode c.code g.pc = .ok (ig, 3)) (hW : 2 * g.monitorRoom + (g.stack.map fun v => v.category).sum ≤ 8) (hf : cells + mc ≤ R.cells ∧ slots + ms ≤ R.slots) (hPc : Pc a T) :
    ∃ (o : Outcome) (t T' : State) (L : List Loc), Stand p l e R s m args below meth c T' (locs ++ L) (cells + mc) (slots + ms) ∧ (∀ q ∈ L, free q.base) ∧ T'.heap = t.heap ∧ T'.vm = t.vm ∧ Qc a (T.calling g mk a) o t ∧ Steps p.tables e below (doInvoke e (T.setTop g) [] mk a).1 t ∧
      ((∃ v, o = .returned v ∧ t = T'.setTop { g with pc := g.pc + 3, stack := v.toList ++ g.stack }) ∨ (∃ x, o = .threw x ∧ t = (T'.setTop g).pushFrame (.throwing x))) := by
  have h : At T g.method c below := by rw [hg]; exact X.here
  have hpre : (headSpec ws rm).pre.before a T = true := atoms_intro fun w hw => hws w hw a T X.warmed
  have happ : (headSpec ws rm).appliesLoose y e.platform (T.calling g mk a) = true :=
    Spec.appliesLoose_calling (g := g) h hdg hn hkY hiY (X.room_calling (g := g) (R' := rm) hsize hmY hcY hframes (by rw [hlY]; omega) (by rw [hrc]; exact hf.1) (by rw [hrs]; exact hf.2)) hpre
  obtain ⟨mid, hmid⟩ := h.above
  have hfr : (T.setTop g).frames = (.java g :: mid) ++ below := by rw [State.frames_setTop' g h.top, hmid]; rfl
  obtain ⟨o, t, hsteps, -, hend, hq, L, ⟨hW1, hS1⟩, hL⟩ := Steps.callFree hM p X.admits X.cas X.clock (acts := []) hfr happ (hbl _ _ _ _ hPc) trivial
  rw [State.frames_setTop' g h.top, X.tail] at hend
  cases o with
  | returned v =>
    obtain ⟨T', X', -, -, ht⟩ := X.outOf hg hdg hend hW1 hS1
    exact ⟨_, t, T', L, X', hL, by rw [ht, tx_setTop_heap], by rw [ht, tx_setTop_vm], hq, hsteps, Or.inl ⟨v, rfl, ht⟩⟩
  | threw x =>
    obtain ⟨T', X', -, -, ht⟩ := X.outOfThrown hg hend hW1 hS1
    exact ⟨_, t, T', L, X', hL, by rw [ht, Stand.throwing_heap], by rw [ht, Stand.throwing_vm], hq, hsteps, Or.inr ⟨x, rfl, ht⟩⟩
theorem tx_runS (S : CallFix p m c cc nL s args Ts own) (hM : tx_Met l y ws rm Pc Qc mc ms free) (cw : CallB R s args own index y bytes maxL ret ws rm mc ms n ∧ (Cond.static y).before args s = true) (hp : PreS s H Pc As)
    (hg : g.method = m) (hn : As.length = n) (hsize : g.locals.size = nL) (hstack : g.stack = As.reverse ++ rest) (hW : 2 * g.monitorRoom + (rest.map fun v => v.category).sum ≤ 8) (hdg : decode cc g.pc = .ok (.invokestatic index, 3)) (hf : cells + mc ≤ R.cells ∧ slots + ms ≤ R.slots) :
    tx_Run p l e R s m args below meth c H locs cells slots mc ms g rest (Qc As.toArray) free := by
  obtain ⟨⟨hrc, hrs, hfr, hlo, hws, hcw, hcode, hini, hy, hlen, hl⟩, hstt⟩ := cw
  obtain ⟨hx, hb, hml, ho, -⟩ := S
  intro T hT X
  obtain ⟨mk, hnamed⟩ := Cond.code_named hcode
  obtain ⟨methM, cM, hmethM, -, -, -, -, -, -, hsigM⟩ := Cond.code_spec hnamed hcode
  have hstatic : methM.isStatic = true := Cond.static_spec hnamed hmethM hstt
  obtain ⟨kP, hkP, -⟩ := className_of_methodNamed hnamed
  have hinitP : kP.init = .initialized := Cond.initialized_spec (findClass_of_methodNamed hnamed) hkP hini
  obtain ⟨vm₁, X₁, hstep₁⟩ := X.invokestatic hx ho hl hnamed hmethM hstatic hkP hinitP hy (g := g) hg (argsL := As) (rest := rest) (hn.trans (hlen _ hsigM)) hstack (by rw [hb]; exact hdg)
  have hn₁ := X₁.named hnamed
  obtain ⟨methY, cY, hmY, hcY, -, hlY, -⟩ := Cond.code_spec hn₁ (hws _ hcw As.toArray (T.setVm vm₁) X₁.warmed)
  obtain ⟨kY, hkY, -⟩ := className_of_methodNamed hn₁
  have hiY : kY.init = .initialized := Cond.initialized_spec (findClass_of_methodNamed hn₁) hkY (word_at (a' := As.toArray) X₁.warmed (Or.inl (by first | rfl | simp [Cond.onTables, Cond.keeps, Cond.steady])) hini)
  obtain ⟨o, t, T', L, X', hL, e1, e2, hq, hsteps, hc⟩ := tx_go (g := { g with stack := rest }) X₁ hM hp.1 hrc hrs hfr hlo hws hn₁ hmY hcY hlY hkY hiY hg (hsize.trans hml.symm) (by rw [hb]; exact hdg) hW hf (hp.2 _ hT X₁.warmed)
  refine ⟨o, (T.setVm vm₁).calling { g with stack := rest } mk As.toArray, t, T', L, hT, X₁.warmed.alike, X', hL, e1, e2, hq, ?_⟩
  rcases hc with ⟨v, ho, ht⟩ | ⟨x, ho, ht⟩
  · exact Or.inl ⟨v, ho, fun target h => hstep₁ _ fun acts => by rw [doInvoke_state]; exact hsteps.trans (by rw [ht]; exact h)⟩
  · exact Or.inr ⟨x, ho, hstep₁ _ fun acts => by rw [doInvoke_state, ← ht]; exact hsteps⟩
theorem tx_runV (S : CallFix p m c cc nL s args Ts own) (hM : tx_Met l y ws rm Pc Qc mc ms free) (cw : CallW R s args own C index y bytes maxL ret ws rm mc ms n) (hp : PreV s H C b Pc As)
    (hg : g.method = m) (hn : As.length = n) (hsize : g.locals.size = nL) (hstack : g.stack = As.reverse ++ .ref b :: rest) (hW : 2 * g.monitorRoom + (rest.map fun v => v.category).sum ≤ 8) (hdg : decode cc g.pc = .ok (.invokevirtual index, 3)) (hf : cells + mc ≤ R.cells ∧ slots + ms ≤ R.slots) :
    tx_Run p l e R s m args below meth c H locs cells slots mc ms g rest (Qc (Value.ref b :: As).toArray) free := by
  obtain ⟨⟨hrc, hrs, hfr, hlo, hws, hcw, hcode, hini, hy, hlen, hl⟩, hinst, hsel⟩ := cw
  obtain ⟨hx, hb, hml, ho, -⟩ := S
  obtain ⟨hbl, ⟨cellB, hcB, hoB, hclB⟩, hPc⟩ := hp
  intro T hT X
  obtain ⟨mk, methM, hnamed, hmethM, hstM, habM⟩ := Cond.instanceMethod_spec hinst
  obtain ⟨methM', cM, hmethM', -, -, -, -, -, -, hsigM⟩ := Cond.code_spec hnamed hcode
  cases hmethM.symm.trans hmethM'
  obtain ⟨c2, r2, m2, q1, q2, q3, q4, kP, hkP, hkPi⟩ := Cond.selects_spec hsel
  cases hclB.symm.trans q1
  cases (State.methodFound?_of_named hnamed hy).symm.trans q2
  cases hnamed.symm.trans q3
  have hselP : selectMethod e.platform s.vm cellB.cls mk = .method mk := by rw [Launch.admits_selectMethod X.admits]; exact q4
  obtain ⟨vm₁, X₁, hstep₁⟩ := X.invokevirtual hx ho hl hnamed hmethM hstM hkP hkPi hy (a := b) (cell := cellB) (by rw [hT]; exact hcB)
    (fun z h => by rw [h] at hoB; cases hoB) hselP hmethM habM hkP hkPi (g := g) hg (argsL := As) (rest := rest) (hn.trans (hlen _ hsigM)) hstack (by rw [hb]; exact hdg)
  have hn₁ := X₁.named hnamed
  obtain ⟨methY, cY, hmY, hcY, -, hlY, -⟩ := Cond.code_spec hn₁ (hws _ hcw (Value.ref b :: As).toArray (T.setVm vm₁) X₁.warmed)
  obtain ⟨kY, hkY, -⟩ := className_of_methodNamed hn₁
  have hiY : kY.init = .initialized := Cond.initialized_spec (findClass_of_methodNamed hn₁) hkY (word_at (a' := As.toArray) X₁.warmed (Or.inl (by first | rfl | simp [Cond.onTables, Cond.keeps, Cond.steady])) hini)
  obtain ⟨o, t, T', L, X', hL, e1, e2, hq, hsteps, hc⟩ := tx_go (g := { g with stack := rest }) X₁ hM hbl hrc hrs hfr hlo hws hn₁ hmY hcY hlY hkY hiY hg (hsize.trans hml.symm) (by rw [hb]; exact hdg) hW hf (hPc _ hT X₁.warmed)
  refine ⟨o, (T.setVm vm₁).calling { g with stack := rest } mk (Value.ref b :: As).toArray, t, T', L, hT, X₁.warmed.alike, X', hL, e1, e2, hq, ?_⟩
  rcases hc with ⟨v, ho, ht⟩ | ⟨x, ho, ht⟩
  · exact Or.inl ⟨v, ho, fun target h => hstep₁ _ fun acts => by rw [doInvoke_state]; exact hsteps.trans (by rw [ht]; exact h)⟩
  · exact Or.inr ⟨x, ho, hstep₁ _ fun acts => by rw [doInvoke_state, ← ht]; exact hsteps⟩
/-- a static method with handlers, by its word codeWith -/
theorem tx_runH (S : CallFix p m c cc nL s args Ts own) (hM : tx_Met l y ws rm Pc Qc mc ms free) {hs : List (Nat × Nat × Nat × Nat)} (hrc : rm.cells = mc) (hrs : rm.slots = ms) (hfr : rm.frames + 1 ≤ R.frames) (hlo : 8 + (maxL + 11) + rm.locals ≤ R.locals)
    (hws : ∀ w ∈ ws, ∀ (a' : Array Value) (U : State), s.WarmedH U.vm → w.before a' U = true) (hcw : Cond.codeWith y bytes maxL ret hs ∈ ws) (hcode : (Cond.codeWith y bytes maxL ret hs).before args s = true) (hini : (Cond.initialized y.cls).before args s = true)
    (hy : y.cls ≠ "java/lang/invoke/MethodHandle" ∧ y.cls ≠ "java/lang/invoke/VarHandle") (hlen : ∀ sig, parseMethodDescriptor y.desc = some sig → n = sig.parameters.length) (hl : (Cond.methodLink own index y).before args s = true) (hstt : (Cond.static y).before args s = true) (hp : PreS s H Pc As)
    (hg : g.method = m) (hn : As.length = n) (hsize : g.locals.size = nL) (hstack : g.stack = As.reverse ++ rest) (hW : 2 * g.monitorRoom + (rest.map fun v => v.category).sum ≤ 8) (hdg : decode cc g.pc = .ok (.invokestatic index, 3)) (hf : cells + mc ≤ R.cells ∧ slots + ms ≤ R.slots) :
    tx_Run p l e R s m args below meth c H locs cells slots mc ms g rest (Qc As.toArray) free := by
  obtain ⟨hx, hb, hml, ho, -⟩ := S
  intro T hT X
  obtain ⟨mk, methM, cM, hnamed, hmethM, -, -, -, -, -, -, hsigM⟩ := Cond.codeWith_spec hcode
  have hstatic : methM.isStatic = true := Cond.static_spec hnamed hmethM hstt
  obtain ⟨kP, hkP, -⟩ := className_of_methodNamed hnamed
  have hinitP : kP.init = .initialized := Cond.initialized_spec (findClass_of_methodNamed hnamed) hkP hini
  obtain ⟨vm₁, X₁, hstep₁⟩ := X.invokestatic hx ho hl hnamed hmethM hstatic hkP hinitP hy (g := g) hg (argsL := As) (rest := rest) (hn.trans (hlen _ hsigM)) hstack (by rw [hb]; exact hdg)
  have hn₁ := X₁.named hnamed
  obtain ⟨mk', methY, cY, hnY, hmY, hcY, -, hlY, -⟩ := Cond.codeWith_spec (hws _ hcw As.toArray (T.setVm vm₁) X₁.warmed)
  cases hn₁.symm.trans hnY
  obtain ⟨kY, hkY, -⟩ := className_of_methodNamed hn₁
  have hiY : kY.init = .initialized := Cond.initialized_spec (findClass_of_methodNamed hn₁) hkY (word_at (a' := As.toArray) X₁.warmed (Or.inl (by first | rfl | simp [Cond.onTables, Cond.keeps, Cond.steady])) hini)
  obtain ⟨o, t, T', L, X', hL, e1, e2, hq, hsteps, hc⟩ := tx_go (g := { g with stack := rest }) X₁ hM hp.1 hrc hrs hfr hlo hws hn₁ hmY hcY hlY hkY hiY hg (hsize.trans hml.symm) (by rw [hb]; exact hdg) hW hf (hp.2 _ hT X₁.warmed)
  refine ⟨o, (T.setVm vm₁).calling { g with stack := rest } mk As.toArray, t, T', L, hT, X₁.warmed.alike, X', hL, e1, e2, hq, ?_⟩
  rcases hc with ⟨v, ho, ht⟩ | ⟨x, ho, ht⟩
  · exact Or.inl ⟨v, ho, fun target h => hstep₁ _ fun acts => by rw [doInvoke_state]; exact hsteps.trans (by rw [ht]; exact h)⟩
  · exact Or.inr ⟨x, ho, hstep₁ _ fun acts => by rw [doInvoke_state, ← ht]; exact hsteps⟩
end TXb
section TXc
theorem tx_setVm_setVm (s : State) (v v' : Vm) : (s.setVm v).setVm v' = s.setVm v' := rfl
/-- a catch type resolved for the first time or again: the search is the one in the warmer tables -/
theorem tx_cold {e : Env} {s : State} {f : JFrame} {a : Addr} {x : ExceptionTableEntry} {t : List ExceptionTableEntry} {cl : ClassId} {vm' : Vm} {Q : Handler → Pre} {E : CtlPost} {d : Bool} {acts : List Action}
    (hx : covers x f.pc = true) (h0 : x.catchType ≠ 0) (hg : (Jvm.resolveClass f.method.cls x.catchType).Gives e.toSetting s.vm (.ok cl) vm') (hr : vm'.classReady f.method.cls x.catchType cl) (hsz : vm'.classes.size ≤ s.vm.classes.size) :
    wp (findHandler.go f a (x :: t)) Q E e d acts s ↔ wp (findHandler.go f a (x :: t)) Q E e d acts (s.setVm vm') := by
  obtain ⟨ha, ht⟩ := hg.op (op := VmOp.resolveClass f.method.cls x.catchType) rfl
  obtain ⟨k, hkd, hres⟩ := hr
  obtain ⟨h2, h3⟩ := resolveClass_memo e (vm := vm') hkd hres
  simp only [covers] at hx
  simp [findHandler.go, hx, h0, ha, ht, h2, h3, hsz, VmOp.dirties, VmOp.acts]
  exact Iff.rfl
/-- one entry of the table that covers the place: it takes the exception, or the search goes on, in warmer tables -/
theorem tx_entry {e : Env} {s U : State} {f : JFrame} {a : Addr} {x : ExceptionTableEntry} {own cn : String} {args : Array Value} (hpl : e.platform.magicAccessors = ({} : Platform).magicAccessors) (hW : s.WarmedH U.vm) (hown : s.vm.findClass own = some f.method.cls)
    (hx : covers x f.pc = true) (h0 : x.catchType ≠ 0) (hl : (Cond.classLink own x.catchType cn).before args s = true) {cell : Cell} (hcell : U.heap[a]? = some cell) (hvm : cell.vm = .none) (hk : ∃ k, s.vm.classes[cell.cls]? = some k) :
    ∃ (cn' : ClassId) (vm' : Vm), s.vm.findClass cn = some cn' ∧ s.WarmedH vm' ∧ ∀ (t : List ExceptionTableEntry) (Q : Handler → Pre) (E : CtlPost) (d : Bool) (acts : List Action),
      (wp (findHandler.go f a (x :: t)) Q E e d acts U ↔ if s.vm.assignable cell.cls cn' = true then Q (.found x.handlerPc) d acts (U.setVm vm') else wp (findHandler.go f a t) Q E e d acts (U.setVm vm')) := by
  obtain ⟨cc, hfcc, hcl⟩ := Cond.classLink_spec hown hl e.platform hpl
  obtain ⟨hg₁, hwarm₁, hready₁⟩ := State.classEntry (e := e) hW hcl
  have hal : U.vm.Alike (U.vm.noted f.method.cls x.catchType (.cls cc)) := hW.alike.symm.trans hwarm₁.alike
  refine ⟨cc, _, hfcc, hwarm₁, fun t Q E d acts => ?_⟩
  rw [tx_cold hx h0 hg₁ hready₁ hal.size_le]
  obtain ⟨k, hk⟩ := hk
  obtain ⟨k1, hk1, -⟩ := hwarm₁.alike.2.2 _ _ hk
  obtain ⟨k2, hk2⟩ := Vm.classAt_of_findClass hfcc
  obtain ⟨k3, hk3, -⟩ := hwarm₁.alike.2.2 _ _ hk2
  rw [W.findHandler_go_class (s := U.setVm (U.vm.noted f.method.cls x.catchType (.cls cc))) (cell := cell) hx h0 hready₁ hcell (fun k h => by rw [hvm] at h; cases h) ⟨k1, hk1⟩ ⟨k3, hk3⟩]
  rw [show (U.setVm (U.vm.noted f.method.cls x.catchType (.cls cc))).vm.assignable cell.cls cc = s.vm.assignable cell.cls cc from hwarm₁.alike.assignable _ _]
theorem tx_stepCatch {e : Env} {s s' : State} {a : Addr} {f : JFrame} {r : List Frame} {pc : Nat} (hfind : ∀ (Q : Handler → Pre) (E : CtlPost) (d : Bool) (acts : List Action), wp (findHandler f a) Q E e d acts s ↔ Q (.found pc) d acts s') :
    (stepThrowing e s a (.java f :: r)).Is (s'.setFrames (.java { f with pc := pc, stack := [.ref a] } :: r)) [] := by
  simp only [stepThrowing, searchFrame, vmDo]
  generalize hr : Sem.go _ e false [] s = res
  obtain ⟨as, rfl, ha⟩ := Sem.eq_ok_of hr (a := Handler.found pc) (s' := s') (acts' := []) (by simp [hfind _ _ _ _])
  exact ⟨rfl, ha⟩
theorem tx_caught {tb : Tables} {e : Env} {s target : State} {vm' : Vm} {g : JFrame} {c : Code} {below : List Frame} {a : Addr} (h : At s g.method c below) {pc : Nat}
    (hfind : ∀ (Q : Handler → Pre) (E : CtlPost) (d : Bool) (acts : List Action), wp (findHandler g a) Q E e d acts ((s.setTop g).pushFrame (.throwing a)) ↔ Q (.found pc) d acts (((s.setTop g).pushFrame (.throwing a)).setVm vm'))
    (hrest : Steps tb e below ((s.setVm vm').setTop { g with pc := pc, stack := [.ref a] }) target) :
    Steps tb e below ((s.setTop g).pushFrame (.throwing a)) target := by
  obtain ⟨hgo, hw⟩ := h.throwing a
  refine Steps.head hgo hw ?_
  rw [stepThread_throwing (frames_entered h.top _), (tx_stepCatch (s := (s.setTop g).pushFrame (.throwing a)) hfind).1]
  obtain ⟨g₀, hg⟩ := Option.isSome_iff_exists.mp h.top
  obtain ⟨r, hr⟩ := State.topJava?_eq_some.mp hg
  have hr' : (s.setVm vm').frames = .java g₀ :: r := hr
  rw [State.setTop_of_frames _ hr'] at hrest
  rw [hr, State.setTop_of_frames _ hr, State.pushFrame]
  have e9 : ∀ fs, (((s.setFrames (.java g :: r)).setFrames (.throwing a :: (s.setFrames (.java g :: r)).frames)).setVm vm').setFrames fs = (s.setVm vm').setFrames fs := fun fs => by
    show (((s.setVm vm').setFrames (.java g :: r)).setFrames (.throwing a :: (s.setFrames (.java g :: r)).frames)).setFrames fs = _
    rw [State.setFrames_setFrames, State.setFrames_setFrames]
  rw [e9]
  exact hrest
variable {p : Program} {l : Launch} {e : Env} {R : Room} {s : State} {m : MethodId} {args : Array Value} {below : List Frame} {meth : Method} {c : Code} {H : Heap} {locs : List Loc} {cells slots : Nat} {Q : State → Prop}
/-- the table's entries in turn: (start, end, handler, catch type) and the class's name of each; the place of the first that takes an exception of the class cls -/
def tx_look (s : State) (cx : ClassId) (own : String) (args : Array Value) (pc : Nat) : List ((Nat × Nat × Nat × Nat) × String) → Nat → Prop
  | [], _ => False
  | (q, cn) :: r, hp => decide (q.1 ≤ pc) = true ∧ decide (pc < q.2.1) = true ∧ q.2.2.2 ≠ 0 ∧ (Cond.classLink own q.2.2.2 cn).before args s = true ∧ ∃ cc, s.vm.findClass cn = some cc ∧
      ((s.vm.assignable cx cc = true ∧ hp = q.2.2.1) ∨ (s.vm.assignable cx cc = false ∧ tx_look s cx own args pc r hp))
theorem tx_search {own : String} {cx : ClassId} {f : JFrame} {a : Addr} {cell : Cell} (hpl : e.platform.magicAccessors = ({} : Platform).magicAccessors) (hown : s.vm.findClass own = some f.method.cls) (hvm : cell.vm = .none) (hcx : cell.cls = cx) (hk : ∃ k, s.vm.classes[cell.cls]? = some k) :
    ∀ (hs : List ((Nat × Nat × Nat × Nat) × String)) (hp : Nat) (U : State), s.WarmedH U.vm → U.heap[a]? = some cell → tx_look s cx own args f.pc hs hp →
      ∃ vm', s.WarmedH vm' ∧ ∀ (Q : Handler → Pre) (E : CtlPost) (d : Bool) (acts : List Action), (wp (findHandler.go f a (tableOf (hs.map (·.1)))) Q E e d acts U ↔ Q (.found hp) d acts (U.setVm vm')) := by
  intro hs
  induction hs with
  | nil => intro hp U _ _ h; exact h.elim
  | cons z r ih =>
    obtain ⟨q, cn⟩ := z
    intro hp U hW hcell h
    obtain ⟨h1, h2, h3, h4, cc, h5, h6⟩ := h
    obtain ⟨cc', vm', g1, g2, g3⟩ := tx_entry (e := e) (U := U) (f := f) (a := a) (x := ⟨q.1, q.2.1, q.2.2.1, q.2.2.2⟩) (args := args) hpl hW hown (by simp only [covers, h1, h2]; rfl) h3 h4 hcell hvm hk
    cases h5.symm.trans g1
    rw [hcx] at g3
    rcases h6 with ⟨h7, rfl⟩ | ⟨h7, h8⟩
    · refine ⟨vm', g2, fun Q E d acts => ?_⟩
      exact (g3 _ Q E d acts).trans (by rw [if_pos h7])
    · obtain ⟨vm2, k1, k2⟩ := ih hp (U.setVm vm') g2 hcell h8
      refine ⟨vm2, k1, fun Q E d acts => ?_⟩
      refine (g3 _ Q E d acts).trans ?_
      rw [if_neg (by rw [h7]; decide)]
      exact k2 Q E d acts
/-- the exception is caught in the method -/
theorem tx_catch {own cls : String} {hs : List ((Nat × Nat × Nat × Nat) × String)} {pc hp : Nat} {ls : Array Slot} {st : List Value} {x : Addr} (hown : s.vm.findClass own = some m.cls) (htab : c.exceptionTable.toList = tableOf (hs.map (·.1))) (hx : tx_Is s cls H x) {cx : ClassId} (hcx : s.vm.findClass cls = some cx) (hlook : tx_look s cx own args pc hs hp)
    (kk : W p l e R s m args below meth c H locs cells slots Q (F0 m hp ls [.ref x])) : tx_T p l e R s m args below meth c H locs cells slots Q (F0 m pc ls st) x := by
  intro T hT X
  obtain ⟨cell, h1, h2, h3⟩ := hx
  cases h2.symm.trans hcx
  have hpl : e.platform.magicAccessors = ({} : Platform).magicAccessors := by rw [X.admits.platform]
  have hU : ((T.setTop (F0 m pc ls st)).pushFrame (.throwing x)).vm = T.vm := Stand.throwing_vm _ _ _
  obtain ⟨vm', g1, g2⟩ := tx_search (e := e) (f := F0 m pc ls st) (a := x) (cell := cell) (args := args) hpl hown h3 rfl (Vm.classAt_of_findClass h2) hs hp ((T.setTop (F0 m pc ls st)).pushFrame (.throwing x)) (by rw [hU]; exact X.warmed) (by rw [Stand.throwing_heap, hT]; exact h1) hlook
  obtain ⟨t, a1, b1⟩ := kk (T.setVm vm') hT (X.noted g1)
  refine ⟨t, tx_caught (vm' := vm') (g := F0 m pc ls st) X.here (pc := hp) (fun Q E d acts => ?_) a1, b1⟩
  rw [W.findHandler_eq (meth := meth) (code := c) (by rw [hU]; exact X.method') X.code, htab]
  exact g2 Q E d acts
end TXc
