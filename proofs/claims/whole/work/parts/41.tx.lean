section TXd
/-- what a thrown exception leaves: its class by number; no old cell has moved -/
def tx_cls : Nat → String
  | 1 => "java/lang/IndexOutOfBoundsException"
  | 2 => "java/lang/IllegalArgumentException"
  | _ => "java/lang/IllegalStateException"
def tx_Th {S : Type} (F : Sum Nat S) (s : State) (o : Outcome) (t : State) : Prop := ∃ (n : Nat) (x : Addr), Sum.inl n = F ∧ o = .threw x ∧ tx_Is s (tx_cls n) t.heap x ∧ s.heap.size ≤ t.heap.size ∧ ∀ q : Nat, q < s.heap.size → t.heap[q]? = s.heap[q]?
def tx_then {A S : Type} (x : Sum Nat A) (r : Sum Nat S) : Sum Nat S := match x with
  | .inl n => .inl n
  | .inr _ => r
def PreX (aT : Nat) (cT : Cell) (B : State → Prop) (U : State) : Prop := B U ∧ U.heap[aT]? = some cT
/-- a need's end: it has changed nothing -/
def tx_N (F : Sum Nat Unit) : Array Value → State → Outcome → State → Prop := fun _ s o t => o = .returned none ∧ Sum.inr () = F ∧ t.heap = s.heap
def tx_Or {S : Type} (Q1 : Array Value → State → Outcome → State → Prop) (F : Sum Nat S) : Array Value → State → Outcome → State → Prop := fun a s o t => Q1 a s o t ∨ tx_Th F s o t
variable {p : Program} {l : Launch} {e : Env} {R : Room} {s : State} {m : MethodId} {args : Array Value} {below : List Frame} {meth : Method} {c : Code} {H : Heap} {locs locs' : List Loc} {cells slots cells' slots' : Nat} {Q : State → Prop}
theorem tx_refund {T T' : State} (X : Stand p l e R s m args below meth c T locs cells slots) (X' : Stand p l e R s m args below meth c T' locs' cells' slots') (h : T'.heap = T.heap) : Stand p l e R s m args below meth c T' locs cells slots := by
  obtain ⟨a1, a2, a3, a4, a5, a6⟩ := X.same
  obtain ⟨b1, b2, b3, b4, b5, b6⟩ := X'.same
  have hh : (T'.setVm s.vm).heap = (T.setVm s.vm).heap := h
  have hs : s.sameButNew (T'.setVm s.vm) locs cells slots := ⟨b1, b2, by rw [hh]; exact a3, b4, by rw [hh]; exact a5, by rw [hh]; exact a6⟩
  exact { X' with same := hs }
theorem tx_up {Q1 : Array Value → State → Outcome → State → Prop} {S : Type} {F : Sum Nat S} {free : Addr → Prop} (t : State) (h : MQ below Q1 args s 0 0 free t) : tx_MQ below (tx_Or Q1 F) args s 1 6 free t := by
  obtain ⟨o, b1, b2, b3, L, ⟨-, f1, f2⟩, f3⟩ := h
  refine ⟨o, b1, b2, Or.inl b3, L, ⟨f1, ?_⟩, f3⟩
  obtain ⟨a1, a2, a3, a4, a5, a6⟩ := f2
  exact ⟨a1, a2, by omega, a4, by omega, a6⟩
theorem tx_ofQ {y : MethodName} {ws ws' : List Cond} {rm : Room} {Pc : Array Value → State → Prop} {Q1 : Array Value → State → Outcome → State → Prop} {S : Type} {F : Sum Nat S} {free : Addr → Prop} {cc : ByteArray} {maxL : Nat} {ret : Option FieldType}
    (hy : plainName y.cls = true) (hw : ws = Cond.code y cc maxL ret :: ws')
    (body : ∀ p e s m args below meth c s₁ (Q : State → Prop), BodyLoose p l y (headSpec ws rm) cc maxL ret e s m args below meth c s₁ → c.maxLocals = maxL → c.exceptionTable.toList = [] → Pc args s → (∀ t, MQ below Q1 args s 0 0 free t → Q t) → (∀ t, tx_MQ below (fun _ s o t => tx_Th F s o t) args s 1 6 free t → Q t) →
      W p l e rm s m args below meth c s.heap [] 0 0 Q (entryFrame m args maxL)) : tx_Met l y ws rm Pc (tx_Or Q1 F) 1 6 free := by
  refine tx_ofW hy hw (fun p e s m args below meth c s₁ B hml hP => body p e s m args below meth c s₁ _ B hml ?_ hP tx_up ?_)
  · obtain ⟨meth', c', h1, h2, h3, h4, h5, h6, h7, -⟩ := Cond.code_spec B.named (atoms_spec (ws := ws) B.pre _ (by rw [hw]; exact List.mem_cons_self))
    cases B.method.symm.trans h1
    cases (Stand.of_body B).code.symm.trans h2
    rw [Array.isEmpty_iff.mp h7]
  · intro t h
    obtain ⟨o, b1, b2, b3, b4⟩ := h
    exact ⟨o, b1, b2, Or.inr b3, b4⟩
theorem PreX.blind {z : State} {D : va_G} {cl : List vw_C} {cI cZ cJ : ClassId} {sz : Nat} {ws : va_W} {av : List Value} {aT : Nat} {cT : Cell} : FrameBlind (va_Pc av (PreX aT cT (PreW z D cl cI cZ cJ sz ws))) := by
  intro a U g mk q
  obtain ⟨q0, q1, q2⟩ := q
  have h := PreW.blind (av := av) a U g mk ⟨q0, q1⟩
  exact ⟨q0, h.2, q2⟩
theorem PreX.pay {z s : State} {D : va_G} {cl : List vw_C} {cI cZ cJ : ClassId} {wc : va_W} {As : List Value} {H : Heap} {A : Nat → Prop} {aT : Nat} {cT : Cell} (hT : H[aT]? = some cT) (hZ : z.WarmedH s.vm) (hP : va_P D cl wc H) (hK : va_K D cl (wK cI cZ cJ) s) (hD : va_D A wc) :
    ∀ U : State, U.heap = H → s.WarmedH U.vm → va_Pc As (PreX aT cT (PreW z D cl cI cZ cJ H.size wc)) As.toArray U :=
  fun U hU hW => ⟨rfl, (PreW.pay (As := As) hZ hP hK hD U hU hW).2, by rw [hU]; exact hT⟩
def kRx (R rm : Room) (maxL : Nat) : Prop := rm.cells = 1 ∧ rm.slots = 6 ∧ rm.frames + 1 ≤ R.frames ∧ 8 + (maxL + 11) + rm.locals ≤ R.locals
variable {cc bytes : ByteArray} {pc : Nat} {ls : Array Slot} {rest st0 As : List Value} {D : va_G} {cl : List vw_C} {A A0 : Nat → Prop} {wc ws : va_W} {y : MethodName} {maxL nL n index : Nat} {ret : Option FieldType} {rm : Room} {own C host : String} {b : Addr} {z : State} {cI cZ cJ : ClassId} {Qc : Array Value → State → Outcome → State → Prop} {free : Addr → Prop} {aT : Nat} {cT : Cell}
theorem kx_S (hT : H[aT]? = some cT) (hx : p.tables.exec = Jvm.exec) (hb : c.code = cc) (hml : c.maxLocals = nL) (hown : s.vm.findClass own = some m.cls) (hZ : z.WarmedH s.vm) (hM : tx_Met l y [Cond.code y bytes maxL ret] rm (va_Pc As (PreX aT cT (PreW z D cl cI cZ cJ H.size wc))) Qc 1 6 free) (hc : kCW s args own index y bytes maxL ret n) (hst : (Cond.static y).before args s = true) (hrm : kRx R rm maxL)
    (hPc : va_P D cl wc H) (hK : va_K D cl (wK cI cZ cJ) s) (hDc : va_D A wc) (hn : As.length = n) (hsize : ls.size = nL) (hstack : st0 = As.reverse ++ rest) (hW : (rest.map fun v => v.category).sum ≤ 8) (hdg : decode cc pc = .ok (.invokestatic index, 3)) (hcl : cells + 1 ≤ R.cells) (hsl : slots + 6 ≤ R.slots) :
    tx_Run p l e R s m args below meth c H locs cells slots 1 6 (F0 m pc ls st0) rest (Qc As.toArray) free :=
  tx_runS (Ts := []) ⟨hx, hb, hml, hown, fun _ h => by cases h⟩ hM ⟨⟨hrm.1, hrm.2.1, hrm.2.2.1, hrm.2.2.2, fun w hw a' U hU => by rcases List.mem_singleton.mp hw with rfl; exact hc.1 a' U hU, List.mem_singleton.mpr rfl, hc.1 args s (State.WarmedH.refl s), hc.2.1, hc.2.2.1, hc.2.2.2.1, hc.2.2.2.2⟩, hst⟩ ⟨PreX.blind, PreX.pay hT hZ hPc hK hDc⟩ rfl hn hsize hstack (lv_room hW) hdg ⟨hcl, hsl⟩
theorem kx_V (hT : H[aT]? = some cT) (hx : p.tables.exec = Jvm.exec) (hb : c.code = cc) (hml : c.maxLocals = nL) (hown : s.vm.findClass own = some m.cls) (hZ : z.WarmedH s.vm) (hM : tx_Met l y [Cond.code y bytes maxL ret] rm (va_Pc (.ref b :: As) (PreX aT cT (PreW z D cl cI cZ cJ H.size wc))) Qc 1 6 free) (hc : kCW s args own index y bytes maxL ret n) (hin : (Cond.instanceMethod y).before args s = true) (hse : (Cond.selects C y y).before args s = true) (hrm : kRx R rm maxL)
    (hrecv : ∃ cell : Cell, H[b]? = some cell ∧ cell.vm.isStatics = false ∧ s.vm.findClass C = some cell.cls) (hPc : va_P D cl wc H) (hK : va_K D cl (wK cI cZ cJ) s) (hDc : va_D A wc) (hn : As.length = n) (hsize : ls.size = nL) (hstack : st0 = As.reverse ++ .ref b :: rest) (hW : (rest.map fun v => v.category).sum ≤ 8) (hdg : decode cc pc = .ok (.invokevirtual index, 3)) (hcl : cells + 1 ≤ R.cells) (hsl : slots + 6 ≤ R.slots) :
    tx_Run p l e R s m args below meth c H locs cells slots 1 6 (F0 m pc ls st0) rest (Qc (Value.ref b :: As).toArray) free :=
  tx_runV (Ts := []) (C := C) ⟨hx, hb, hml, hown, fun _ h => by cases h⟩ hM ⟨⟨hrm.1, hrm.2.1, hrm.2.2.1, hrm.2.2.2, fun w hw a' U hU => by rcases List.mem_singleton.mp hw with rfl; exact hc.1 a' U hU, List.mem_singleton.mpr rfl, hc.1 args s (State.WarmedH.refl s), hc.2.1, hc.2.2.1, hc.2.2.2.1, hc.2.2.2.2⟩, hin, hse⟩ ⟨PreX.blind, hrecv, PreX.pay hT hZ hPc hK hDc⟩ rfl hn hsize hstack (lv_room hW) hdg ⟨hcl, hsl⟩
/-- a call of a need: it returns and nothing has changed, or the caller ends by the same exception -/
theorem tx_need {S : Type} {F : Sum Nat Unit} {G G' : Sum Nat S} {a : Array Value} {free0 : Addr → Prop} (hr : tx_Run p l e R s m args below meth c s.heap [] 0 0 1 6 (F0 m pc ls st0) rest (tx_Or (tx_N F) F a) free0) (hf : ∀ q, free0 q → free q) (hlocks : meth.locks = false) (hout : c.exceptionTable.toList = []) (hR : G = tx_then F G')
    (hX : ∀ t, tx_MQ below (fun _ s o t => tx_Th G s o t) args s 1 6 free t → Q t) (kk : Sum.inr () = F → G = G' → W p l e R s m args below meth c s.heap [] 0 0 Q (F0 m (pc + 3) ls rest)) : W p l e R s m args below meth c s.heap [] 0 0 Q (F0 m pc ls st0) := by
  intro T hT X
  obtain ⟨o, st₀, t, T', L, h0, hal, X', hL, e1, e2, hq, hc⟩ := hr T hT X
  rcases hq with ⟨ho, hF, ht⟩ | ⟨n, x, hF, ho, ⟨cell, i1, i2, i3⟩, h1, h2⟩
  · rcases hc with ⟨v, hv, hgo⟩ | ⟨x, hx, -⟩
    · cases ho.symm.trans hv
      have hheap : T'.heap = T.heap := by rw [e1, ht, h0, hT]
      obtain ⟨t2, b1, b2⟩ := kk hF (by rw [hR, ← hF]; rfl) T' (by rw [hheap, hT]) (tx_refund X X' hheap)
      exact ⟨t2, hgo _ b1, b2⟩
    · cases ho.symm.trans hx
  · rcases hc with ⟨v, hv, -⟩ | ⟨x', hx', hsteps⟩
    · cases ho.symm.trans hv
    · cases ho.symm.trans hx'
      obtain ⟨t2, b1, b2⟩ := tx_leave (Qc := fun _ s o t => tx_Th G s o t) (free := free) (H := T'.heap) (locs := [] ++ L) (cells := 0 + 1) (slots := 0 + 6) (pc := pc) (ls := ls) (st := rest) (x := x) hlocks (by rw [hout]; intro y hy; cases hy)
        (fun t9 ht9 _ => ⟨n, x, by rw [hR, ← hF]; rfl, rfl, ⟨cell, by rw [ht9, e1]; exact i1, by rw [← hal.findClass]; exact i2, i3⟩, by rw [ht9, e1, ← h0]; exact h1, fun q hq => by rw [ht9, e1, ← h0]; exact h2 q (by rw [h0]; exact hq)⟩) (fun q hq => hf _ (hL q (by simpa using hq))) T' rfl X'
      exact ⟨t2, hsteps.trans b1, hX _ b2⟩
theorem tx_fit : ∀ n ∈ ["java/lang/RuntimeException", "java/lang/Exception"], Bundle.fit n = true := by decide
theorem tx_thr {S : Type} {G : Sum Nat S} (hfl : l.flags = pinnedFlags ++ [noTraceFlag]) (hexec : p.tables.exec = Jvm.exec) (hb : c.code = cc) {own cls : String} {ic index n : Nat} (hown : s.vm.findClass own = some m.cls)
    (hclink : (Cond.classLink own index cls).before args s = true) (hins : (Cond.instantiable cls 6).before args s = true) (hinit : (Cond.initialized cls).before args s = true)
    (hcls : Bundle.fit cls = true) (h : ∀ a ∈ Bundle.ownAtoms0 own ic cls ["java/lang/RuntimeException", "java/lang/Exception"], a.before args s = true) (hlocks : meth.locks = false) (hout : c.exceptionTable.toList = [])
    (hsize : ls.size = c.maxLocals)
    (hd0 : decode cc pc = .ok (.new index, 3)) (hd3 : decode cc (pc + 3) = .ok (.dup, 1)) (hd4 : decode cc (pc + 4) = .ok (.invokespecial ic, 3)) (hd7 : decode cc (pc + 7) = .ok (.athrow, 1))
    (hRframes : 5 < R.frames) (hRlocals : ((rest.map fun v => v.category).sum + 1) + 80 ≤ R.locals) (hcells : 0 + 1 ≤ R.cells) (hslots : 0 + 6 ≤ R.slots)
    (hn : tx_cls n = cls) (hR : G = Sum.inl n) (hX : ∀ t, tx_MQ below (fun _ s o t => tx_Th G s o t) args s 1 6 free t → Q t) : W p l e R s m args below meth c H [] 0 0 Q (F0 m pc ls rest) :=
  (tx_new (names := ["java/lang/RuntimeException", "java/lang/Exception"]) (Qc := fun _ s o t => tx_Th G s o t) (free := free) hfl hexec hb hown hclink hins hinit hcls tx_fit h hlocks hout hsize hd0 hd3 hd4 hd7 hRframes hRlocals hcells hslots (fun x t h1 h2 _ h3 => ⟨n, x, hR.symm, rfl, by rw [hn]; exact h3, h1, h2⟩)).mono hX
end TXd
