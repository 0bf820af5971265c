theorem wdA {z s : State} {za args : Array Value} (zh : ∀ w ∈ lw_tbl, w.before za z = true) (hZ : z.WarmedH s.vm) {ty : FieldType} (i : Nat) (hi : lw_tbl[i]? = some (Cond.arrayClass ty)) : (Cond.arrayClass ty).before args s = true := word_at hZ (Or.inr ⟨ty, rfl⟩) (zh _ (List.mem_of_getElem? hi))
section CT
abbrev z32 : Nat → Int32 := fun _ => 0
abbrev z64 : Nat → Int64 := fun _ => 0
abbrev nu_T : Type := (Nat → Nat) × (Nat → Nat → Int32) × (Nat → Int32)
abbrev nu_M : Type := (Nat → Nat) × (Nat → Nat → Int32) × (Nat → Nat → Int64) × (Nat → Int32)
variable {p : Program} {l : Launch} {e : Env} {R : Room} {s : State} {m : MethodId} {args : Array Value} {below : List Frame} {meth : Method} {c : Code} {H : Heap} {locs : List Loc} {cells slots mc ms : Nat} {Q : State → Prop}
variable {cc bytes : ByteArray} {pc : Nat} {ls : Array Slot} {rest st0 As : List Value} {D : va_G} {cl : List vw_C} {A A0 : Nat → Prop} {wc ws : va_W} {y : MethodName} {maxL nL n index : Nat} {rm : Room} {own C host : String} {b : Addr} {z : State} {cI cZ cJ : ClassId} {Qc : Array Value → State → Outcome → State → Prop} {free : Addr → Prop} {tys : List (ClassId × FieldType)} {H0 : Heap}
/-- a new array, of an array class that has its name already -/
theorem kn_newa (hexec : p.tables.exec = Jvm.exec) (hb : c.code = cc) {atype : ArrayType} (harr : (Cond.arrayClass (newarray.typeOf atype)).before args s = true) {ty : FieldType} (hty : newarray.typeOf atype = ty) (hK : va_K D cl tys s) (hP : va_P D cl ws H) (hD : va_D A ws) (hS : va_S A H0 H locs) (hA : ∀ q, H0.size ≤ q → A q)
    (t0 : Nat) {cA : ClassId} (ht : tys[t0]? = some (cA, ty)) (hpr : ∀ cB : ClassId, va_RA s cB ty → s.vm.findClass ("[" ++ ty.toString) = some cB)
    {nn : Int32} {N' : Nat} {a0 : vp_A} (ha : ∀ cA : ClassId, vp_cell cA a0 = arrV cA N' (fun _ => defaultValue ty)) (hn : ¬ nn < 0) (hN : nn.toNatClampNeg = N') (hbytes : N' * componentBytes ty ≤ 536870912) (hcells : cells + 1 ≤ R.cells) (hslots : slots + N' ≤ R.slots) (hdg : decode cc pc = .ok (.newarray atype, 2))
    (kk : ∀ (q : Nat) (H1 : Heap), va_P D cl (ws ++ [(q, .inl (cA, a0))]) H1 → va_D A (ws ++ [(q, .inl (cA, a0))]) → va_S A H0 H1 locs →
      W p l e R s m args below meth c H1 locs (cells + 1) (slots + N') Q (F0 m (pc + 2) ls (.ref q :: rest))) : W p l e R s m args below meth c H locs cells slots Q (F0 m pc ls (.int nn :: rest)) := by
  refine va_newa hexec hb harr hty hK hP hD hS hA ha hn hN hbytes hcells hslots hdg (fun q cB H1 hK1 hP1 hD1 hS1 => ?_)
  have e1 := hpr cB (hK1.2 tys.length (cB, ty) (by simp)).2
  have e2 := hpr cA (hK.2 t0 _ ht).2
  cases e1.symm.trans e2
  exact kk q H1 hP1 hD1 hS1
theorem kr_I (hx : p.tables.exec = Jvm.exec) (hb : c.code = cc) (hml : c.maxLocals = nL) (hown : s.vm.findClass own = some m.cls) (hZ : z.WarmedH s.vm) (hM : Met l y [Cond.code y bytes maxL none] rm (va_Pc (.ref b :: As) (PreW z D cl cI cZ cJ H.size wc)) Qc mc ms free) (hc : kCW s args own index y bytes maxL none n) (hin : (Cond.instanceMethod y).before args s = true) (hnm : y.name = "<init>") (hrm : rm.cells = mc ∧ rm.slots = ms ∧ rm.frames + 1 ≤ R.frames ∧ 8 + (maxL + 11) + rm.locals ≤ R.locals)
    (hPc : va_P D cl wc H) (hK : va_K D cl (wK cI cZ cJ) s) (hDc : va_D A wc) (hn : As.length = n) (hsize : ls.size = nL) (hstack : st0 = As.reverse ++ .ref b :: rest) (hW : (rest.map fun v => v.category).sum ≤ 8) (hdg : decode cc pc = .ok (.invokespecial index, 3)) (hcl : cells + mc ≤ R.cells) (hsl : slots + ms ≤ R.slots) :
    va_Run p l e R s m args below meth c H locs cells slots mc ms (F0 m pc ls st0) rest (Qc (Value.ref b :: As).toArray) free :=
  va_runI (Ts := []) ⟨hx, hb, hml, hown, fun _ h => by cases h⟩ hM ⟨⟨hrm.1, hrm.2.1, hrm.2.2.1, hrm.2.2.2, fun w hw a' U hU => by rcases List.mem_singleton.mp hw with rfl; exact hc.1 a' U hU, List.mem_singleton.mpr rfl, hc.1 args s (State.WarmedH.refl s), hc.2.1, hc.2.2.1, hc.2.2.2.1, hc.2.2.2.2⟩, hnm, hin⟩ ⟨PreW.blind, PreW.pay hZ hPc hK hDc⟩ rfl hn hsize hstack (lv_room hW) hdg ⟨hcl, hsl⟩
theorem kr_IN (hx : p.tables.exec = Jvm.exec) (hb : c.code = cc) (hml : c.maxLocals = nL) (hown : s.vm.findClass own = some m.cls) (hZ : z.WarmedH s.vm) (hM : Met l y [Cond.code y bytes maxL none] rm (va_Pc (.ref b :: As) (PreW z D cl cI cZ cJ H.size wc)) Qc mc ms free) (hc : kCN s args own index y host bytes maxL none n) (hin : (Cond.instanceMethod y).before args s = true) (hnm : y.name = "<init>") (hrm : rm.cells = mc ∧ rm.slots = ms ∧ rm.frames + 1 ≤ R.frames ∧ 8 + (maxL + 11) + rm.locals ≤ R.locals)
    (hPc : va_P D cl wc H) (hK : va_K D cl (wK cI cZ cJ) s) (hDc : va_D A wc) (hn : As.length = n) (hsize : ls.size = nL) (hstack : st0 = As.reverse ++ .ref b :: rest) (hW : (rest.map fun v => v.category).sum ≤ 8) (hdg : decode cc pc = .ok (.invokespecial index, 3)) (hcl : cells + mc ≤ R.cells) (hsl : slots + ms ≤ R.slots) :
    va_Run p l e R s m args below meth c H locs cells slots mc ms (F0 m pc ls st0) rest (Qc (Value.ref b :: As).toArray) free :=
  va_runIN (Ts := []) ⟨hx, hb, hml, hown, fun _ h => by cases h⟩ hM ⟨⟨⟨hrm.1, hrm.2.1, hrm.2.2.1, hrm.2.2.2, fun w hw a' U hU => by rcases List.mem_singleton.mp hw with rfl; exact hc.1 a' U hU, List.mem_singleton.mpr rfl⟩, hc.1 args s (State.WarmedH.refl s), hc.2.1, hc.2.2.1, hc.2.2.2.1, hc.2.2.2.2⟩, hnm, hin⟩ ⟨PreW.blind, PreW.pay hZ hPc hK hDc⟩ rfl hn hsize hstack (lv_room hW) hdg ⟨hcl, hsl⟩
/-- behind a constructor: the caller's other cells, then the callee's, the new ones with them -/
theorem kn_v {S : Type} {post : S → Prop} {w1 : S → va_W} {a : Array Value} (wr : va_W) (hr : va_Run p l e R s m args below meth c H locs cells slots mc ms (F0 m pc ls st0) rest (va_Qv post (fun u => PostW D cl (va_A wc H.size) (w1 u)) (va_A wc H.size) a) (va_A wc H.size)) (hP : va_P D cl ws H) (hD : va_D A ws) (hS : va_S A s.heap H locs) (hA : ∀ q, s.heap.size ≤ q → A q)
    (isC isR : List Nat) (hC : isC.map (fun i => ws[i]?) = wc.map some) (hR : isR.map (fun i => ws[i]?) = wr.map some) (hnd : va_nd isR = true) (hdis : ∀ i ∈ isR, i ∉ isC)
    (kk : ∀ (u : S) (H1 : Heap) (locs1 : List Loc), post u → va_P D cl (wr ++ w1 u) H1 → va_D A (wr ++ w1 u) → va_S A s.heap H1 locs1 → W p l e R s m args below meth c H1 locs1 (cells + mc) (slots + ms) Q (F0 m (pc + 3) ls rest)) : W p l e R s m args below meth c H locs cells slots Q (F0 m pc ls st0) := by
  have hF := va_free (wc := wc) hD hS hA isC hC
  refine va_callv hr hS (fun q _ h => hF q h) hF (fun u t H1 locs1 ht hvm hw hB hz hk hS1 => ?_)
  have hP1 : va_P D cl (w1 u) H1 := by rw [← ht]; exact hB.1
  obtain ⟨h1, h2⟩ := va_join hP hD isC isR hC hR hnd hdis hk hF hP1 hB.2
  exact kk u H1 locs1 hw h1 h2 hS1
end CT
