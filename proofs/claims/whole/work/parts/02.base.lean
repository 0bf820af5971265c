/-! the words that every contract here is said in -/
abbrev wK (cI cZ cJ : ClassId) : List (ClassId × FieldType) := [(cI, .int), (cZ, .boolean), (cJ, .long)]
/-- a method's start: the tables are warmer than z's (the law's own start), the world is ws -/
def PreW (z : State) (D : va_G) (cl : List vw_C) (cI cZ cJ : ClassId) (sz : Nat) (ws : va_W) (U : State) : Prop :=
  U.heap.size = sz ∧ z.WarmedH U.vm ∧ va_P D cl ws U.heap ∧ va_K D cl (wK cI cZ cJ) U ∧ va_D (fun _ => True) ws
/-- a method's end -/
def PostW (D : va_G) (cl : List vw_C) (A : Nat → Prop) (ws : va_W) (t : State) : Prop := va_P D cl ws t.heap ∧ va_D A ws
theorem PreW.blind {z : State} {D : va_G} {cl : List vw_C} {cI cZ cJ : ClassId} {sz : Nat} {ws : va_W} {av : List Value} : FrameBlind (va_Pc av (PreW z D cl cI cZ cJ sz ws)) := by
  intro a U g mk q
  obtain ⟨q0, q1, q2, qP, qK, qD⟩ := q
  exact ⟨q0, q1, q2, qP, va_K.moved (u := U) (U := U.calling g mk a) (Vm.Alike.refl U.vm) qK, qD⟩
theorem PreW.pay {z s : State} {D : va_G} {cl : List vw_C} {cI cZ cJ : ClassId} {wc : va_W} {As : List Value} {H : Heap} {A : Nat → Prop} (hZ : z.WarmedH s.vm) (hP : va_P D cl wc H) (hK : va_K D cl (wK cI cZ cJ) s) (hD : va_D A wc) :
    ∀ U : State, U.heap = H → s.WarmedH U.vm → va_Pc As (PreW z D cl cI cZ cJ H.size wc) As.toArray U :=
  fun U hU hW => ⟨rfl, by rw [hU], State.WarmedH.trans hZ hW, by rw [hU]; exact hP, va_K.moved hW.alike hK, hD.weaken (fun _ _ _ _ => trivial)⟩
/-- cells put at places of a world -/
def wput : va_W → List Nat → va_W → va_W
  | ws, i :: is, q :: w1 => wput (ws.set i q) is w1
  | ws, _, _ => ws
theorem wput_mem : ∀ (is : List Nat) (w1 ws : va_W), is.length = w1.length → ∀ (k : Nat) (q : Nat × va_E), (wput ws is w1)[k]? = some q → (∃ j : Nat, is[j]? = some k ∧ w1[j]? = some q) ∨ (ws[k]? = some q ∧ k ∉ is) := by
  intro is
  induction is with
  | nil => intro w1 ws _ k q h; exact Or.inr ⟨by simpa [wput] using h, List.not_mem_nil⟩
  | cons i is ih =>
    intro w1 ws hl k q h
    cases w1 with
    | nil => simp at hl
    | cons x w1 =>
      simp only [wput] at h
      rcases ih w1 (ws.set i x) (by simpa using hl) k q h with ⟨j, h1, h2⟩ | ⟨h1, h2⟩
      · exact Or.inl ⟨j + 1, by simpa using h1, by simpa using h2⟩
      · by_cases hk : k = i
        · subst hk
          have hlt : k < (ws.set k x).length := (List.getElem?_eq_some_iff.mp h1).1
          rw [List.getElem?_set_self (by simpa using hlt)] at h1
          exact Or.inl ⟨0, rfl, by simpa using h1⟩
        · rw [List.getElem?_set_ne (fun h => hk h.symm)] at h1
          exact Or.inr ⟨h1, fun h => by rcases List.mem_cons.mp h with h | h; exact hk h; exact h2 h⟩
theorem va_D.adr {A : Nat → Prop} {ws ws' : va_W} (h : va_D A ws) (ha : ws'.map (·.1) = ws.map (·.1)) : va_D A ws' := by
  have at' : ∀ (k : Nat) (q : Nat × va_E), ws'[k]? = some q → ∃ q', ws[k]? = some q' ∧ q'.1 = q.1 := by
    intro k q hk
    have h1 : (ws'.map (·.1))[k]? = some q.1 := by simp [hk]
    rw [ha] at h1
    simpa using h1
  refine ⟨fun i j p q hi hj hpq => ?_, fun k q hk => ?_⟩
  · obtain ⟨p', h1, h2⟩ := at' i p hi
    obtain ⟨q', h3, h4⟩ := at' j q hj
    exact h.1 i j p' q' h1 h3 (by rw [h2, h4, hpq])
  · obtain ⟨q', h1, h2⟩ := at' k q hk
    rw [← h2]
    exact h.2 k q' h1
/-- behind a call: the callee's cells come back to their places, the others are as they were -/
theorem wback {A0 : Nat → Prop} {D : va_G} {cl : List vw_C} {ws wc w1 : va_W} {H H1 : Heap} (hP : va_P D cl ws H) (hD : va_D A0 ws) (isC : List Nat) (hC : isC.map (fun i => ws[i]?) = wc.map some) (hlen : isC.length = w1.length) (hadr : (wput ws isC w1).map (·.1) = ws.map (·.1))
    (hk : ∀ q : Nat, q < H.size → ¬ va_A wc H.size q → H1[q]? = H[q]?) (hP1 : va_P D cl w1 H1) : va_P D cl (wput ws isC w1) H1 ∧ va_D A0 (wput ws isC w1) := by
  refine ⟨fun k q hq => ?_, hD.adr hadr⟩
  rcases wput_mem isC w1 ws hlen k q hq with ⟨j, -, h2⟩ | ⟨h1, h2⟩
  · exact hP1 j q h2
  · have hl := (hP k q h1).lt
    refine (hP k q h1).kept (hk q.1 hl fun h => ?_)
    rcases h with ⟨k2, e, h⟩ | h
    · have h3 : (wc.map some)[k2]? = some (some (q.1, e)) := by simp [h]
      rw [← hC] at h3
      simp only [List.getElem?_map, Option.map_eq_some_iff] at h3
      obtain ⟨i, h4, h5⟩ := h3
      have hki := hD.1 k i q (q.1, e) h1 h5 rfl
      subst hki
      exact h2 (List.mem_of_getElem? h4)
    · omega
/-- a word of the tables, at a state whose tables are warmer -/
theorem wd {z s : State} {za args : Array Value} (zh : ∀ w ∈ lw_tbl, w.before za z = true) (hZ : z.WarmedH s.vm) {w : Cond} (i : Nat) (hi : lw_tbl[i]? = some w) (hk : (w.onTables && w.keeps) = true) : w.before args s = true := word_at hZ (Or.inl hk) (zh w (List.mem_of_getElem? hi))
section KC
variable {p : Program} {l : Launch} {e : Env} {R : Room} {s : State} {m : MethodId} {args : Array Value} {below : List Frame} {meth : Method} {c : Code} {H : Heap} {locs : List Loc} {cells slots : Nat} {Q : State → Prop}
variable {cc : ByteArray} {pc : Nat} {ls : Array Slot} {rest st0 : List Value} {D : va_G} {cl : List vw_C} {A : Nat → Prop} {a : Nat} {tys : List (ClassId × FieldType)} {ws : va_W} {H0 : Heap}
/-- another form of the number on the stack -/
theorem nn_eq {x y : Int32} (h : x = y) (k : W p l e R s m args below meth c H locs cells slots Q (F0 m pc ls (.int y :: rest))) : W p l e R s m args below meth c H locs cells slots Q (F0 m pc ls (.int x :: rest)) := by rw [h]; exact k
theorem nn_eql {x y : Int64} (h : x = y) (k : W p l e R s m args below meth c H locs cells slots Q (F0 m pc ls (.long y :: rest))) : W p l e R s m args below meth c H locs cells slots Q (F0 m pc ls (.long x :: rest)) := by rw [h]; exact k
theorem nn_iadd (hexec : p.tables.exec = Jvm.exec) (hb : c.code = cc) {x y : Nat} (hdg : decode cc pc = .ok (.iadd, 1)) (k : W p l e R s m args below meth c H locs cells slots Q (F0 m (pc + 1) ls (.int (nI (x + y)) :: rest))) : W p l e R s m args below meth c H locs cells slots Q (F0 m pc ls (.int (nI y) :: .int (nI x) :: rest)) :=
  lv_iadd hexec hb hdg (by rw [nI_add]; exact k)
theorem nn_imul (hexec : p.tables.exec = Jvm.exec) (hb : c.code = cc) {x y : Nat} (hdg : decode cc pc = .ok (.imul, 1)) (k : W p l e R s m args below meth c H locs cells slots Q (F0 m (pc + 1) ls (.int (nI (x * y)) :: rest))) : W p l e R s m args below meth c H locs cells slots Q (F0 m pc ls (.int (nI y) :: .int (nI x) :: rest)) :=
  lv_imul hexec hb hdg (by rw [pk_mul]; exact k)
theorem nn_iald (hexec : p.tables.exec = Jvm.exec) (hb : c.code = cc) (hK : va_K D cl tys s) (hP : va_P D cl ws H) (q0 t0 : Nat) {cA : ClassId} {n : Nat} {f : Nat → Int32} (ha : ws[q0]? = some (a, .inl (cA, n, .inl f))) (ht : tys[t0]? = some (cA, .int)) {j : Nat} (hj : j < n) (hn : n < 1000) (hdg : decode cc pc = .ok (.iaload, 1))
    (k : W p l e R s m args below meth c H locs cells slots Q (F0 m (pc + 1) ls (.int (f j) :: rest))) : W p l e R s m args below meth c H locs cells slots Q (F0 m pc ls (.int (nI j) :: .ref a :: rest)) :=
  va_iald hexec hb hK hP q0 t0 ha ht (vp_in_nI hj (by omega)) hdg (by rw [nI_clamp (by omega)]; exact k)
theorem nn_zald (hexec : p.tables.exec = Jvm.exec) (hb : c.code = cc) (hK : va_K D cl tys s) (hP : va_P D cl ws H) (q0 t0 : Nat) {cA : ClassId} {n : Nat} {f : Nat → Int32} (ha : ws[q0]? = some (a, .inl (cA, n, .inl f))) (ht : tys[t0]? = some (cA, .boolean)) {j : Nat} (hj : j < n) (hn : n < 1000) (hdg : decode cc pc = .ok (.baload, 1))
    (k : W p l e R s m args below meth c H locs cells slots Q (F0 m (pc + 1) ls (.int (f j) :: rest))) : W p l e R s m args below meth c H locs cells slots Q (F0 m pc ls (.int (nI j) :: .ref a :: rest)) :=
  va_zald hexec hb hK hP q0 t0 ha ht (vp_in_nI hj (by omega)) hdg (by rw [nI_clamp (by omega)]; exact k)
theorem nn_lald (hexec : p.tables.exec = Jvm.exec) (hb : c.code = cc) (hK : va_K D cl tys s) (hP : va_P D cl ws H) (q0 t0 : Nat) {cA : ClassId} {n : Nat} {f : Nat → Int64} (ha : ws[q0]? = some (a, .inl (cA, n, .inr (.inl f)))) (ht : tys[t0]? = some (cA, .long)) {j : Nat} (hj : j < n) (hn : n < 1000) (hdg : decode cc pc = .ok (.laload, 1))
    (k : W p l e R s m args below meth c H locs cells slots Q (F0 m (pc + 1) ls (.long (f j) :: rest))) : W p l e R s m args below meth c H locs cells slots Q (F0 m pc ls (.int (nI j) :: .ref a :: rest)) :=
  va_lald hexec hb hK hP q0 t0 ha ht (vp_in_nI hj (by omega)) hdg (by rw [nI_clamp (by omega)]; exact k)
theorem nn_iast (hexec : p.tables.exec = Jvm.exec) (hb : c.code = cc) (hK : va_K D cl tys s) (hP : va_P D cl ws H) (hD : va_D A ws) (hS : va_S A H0 H locs) (q0 t0 : Nat) {cA : ClassId} {n : Nat} {f : Nat → Int32} (ha : ws[q0]? = some (a, .inl (cA, n, .inl f))) (ht : tys[t0]? = some (cA, .int)) {j : Nat} {x : Int32} (hj : j < n) (hn : n < 1000) (hdg : decode cc pc = .ok (.iastore, 1))
    (kk : ∀ (H1 : Heap) (locs1 : List Loc), va_P D cl (ws.set q0 (a, .inl (cA, n, .inl (upd f j x)))) H1 → va_D A (ws.set q0 (a, .inl (cA, n, .inl (upd f j x)))) → va_S A H0 H1 locs1 → W p l e R s m args below meth c H1 locs1 cells slots Q (F0 m (pc + 1) ls rest)) : W p l e R s m args below meth c H locs cells slots Q (F0 m pc ls (.int x :: .int (nI j) :: .ref a :: rest)) :=
  va_iast hexec hb hK hP hD hS q0 t0 ha ht (vp_in_nI hj (by omega)) hdg (by rw [nI_clamp (by omega)]; exact kk)
theorem nn_last (hexec : p.tables.exec = Jvm.exec) (hb : c.code = cc) (hK : va_K D cl tys s) (hP : va_P D cl ws H) (hD : va_D A ws) (hS : va_S A H0 H locs) (q0 t0 : Nat) {cA : ClassId} {n : Nat} {f : Nat → Int64} (ha : ws[q0]? = some (a, .inl (cA, n, .inr (.inl f)))) (ht : tys[t0]? = some (cA, .long)) {j : Nat} {x : Int64} (hj : j < n) (hn : n < 1000) (hdg : decode cc pc = .ok (.lastore, 1))
    (kk : ∀ (H1 : Heap) (locs1 : List Loc), va_P D cl (ws.set q0 (a, .inl (cA, n, .inr (.inl (vp_updL f j x))))) H1 → va_D A (ws.set q0 (a, .inl (cA, n, .inr (.inl (vp_updL f j x))))) → va_S A H0 H1 locs1 → W p l e R s m args below meth c H1 locs1 cells slots Q (F0 m (pc + 1) ls rest)) : W p l e R s m args below meth c H locs cells slots Q (F0 m pc ls (.long x :: .int (nI j) :: .ref a :: rest)) :=
  va_last hexec hb hK hP hD hS q0 t0 ha ht (vp_in_nI hj (by omega)) hdg (by rw [nI_clamp (by omega)]; exact kk)
theorem nn_zast (hexec : p.tables.exec = Jvm.exec) (hb : c.code = cc) (hK : va_K D cl tys s) (hP : va_P D cl ws H) (hD : va_D A ws) (hS : va_S A H0 H locs) (q0 t0 : Nat) {cA : ClassId} {n : Nat} {f : Nat → Int32} (ha : ws[q0]? = some (a, .inl (cA, n, .inl f))) (ht : tys[t0]? = some (cA, .boolean)) {j : Nat} {x : Int32} (hj : j < n) (hn : n < 1000) (hx : vp_nar .boolean x = x) (hdg : decode cc pc = .ok (.bastore, 1))
    (kk : ∀ (H1 : Heap) (locs1 : List Loc), va_P D cl (ws.set q0 (a, .inl (cA, n, .inl (upd f j x)))) H1 → va_D A (ws.set q0 (a, .inl (cA, n, .inl (upd f j x)))) → va_S A H0 H1 locs1 → W p l e R s m args below meth c H1 locs1 cells slots Q (F0 m (pc + 1) ls rest)) : W p l e R s m args below meth c H locs cells slots Q (F0 m pc ls (.int x :: .int (nI j) :: .ref a :: rest)) :=
  va_zast hexec hb hK hP hD hS q0 t0 ha ht (vp_in_nI hj (by omega)) hdg (by rw [nI_clamp (by omega), hx]; exact kk)
theorem nn_icmp_ge (hexec : p.tables.exec = Jvm.exec) (hb : c.code = cc) {x y : Nat} (hx : x < 2 ^ 31) (hy : y < 2 ^ 31) {off : Int} {tgt : Nat} (hdg : decode cc pc = .ok (.if_icmp .ge off, 3)) (ht : (pc : Int) + off = (tgt : Int))
    (kt : y ≤ x → W p l e R s m args below meth c H locs cells slots Q (F0 m tgt ls rest)) (kf : ¬ y ≤ x → W p l e R s m args below meth c H locs cells slots Q (F0 m (pc + 3) ls rest)) : W p l e R s m args below meth c H locs cells slots Q (F0 m pc ls (.int (nI y) :: .int (nI x) :: rest)) :=
  lv_icmp_ge hexec hb hdg ht (fun h => kt ((nI_leI hy hx).mp h)) (fun h => kf fun q => h ((nI_leI hy hx).mpr q))
theorem nn_icmp_gt (hexec : p.tables.exec = Jvm.exec) (hb : c.code = cc) {x y : Nat} (hx : x < 2 ^ 31) (hy : y < 2 ^ 31) {off : Int} {tgt : Nat} (hdg : decode cc pc = .ok (.if_icmp .gt off, 3)) (ht : (pc : Int) + off = (tgt : Int))
    (kt : y < x → W p l e R s m args below meth c H locs cells slots Q (F0 m tgt ls rest)) (kf : ¬ y < x → W p l e R s m args below meth c H locs cells slots Q (F0 m (pc + 3) ls rest)) : W p l e R s m args below meth c H locs cells slots Q (F0 m pc ls (.int (nI y) :: .int (nI x) :: rest)) :=
  lv_icmp_gt hexec hb hdg ht (fun h => kt ((nI_ltI hy hx).mp h)) (fun h => kf fun q => h ((nI_ltI hy hx).mpr q))
theorem nn_icmp_le (hexec : p.tables.exec = Jvm.exec) (hb : c.code = cc) {x y : Nat} (hx : x < 2 ^ 31) (hy : y < 2 ^ 31) {off : Int} {tgt : Nat} (hdg : decode cc pc = .ok (.if_icmp .le off, 3)) (ht : (pc : Int) + off = (tgt : Int))
    (kt : x ≤ y → W p l e R s m args below meth c H locs cells slots Q (F0 m tgt ls rest)) (kf : ¬ x ≤ y → W p l e R s m args below meth c H locs cells slots Q (F0 m (pc + 3) ls rest)) : W p l e R s m args below meth c H locs cells slots Q (F0 m pc ls (.int (nI y) :: .int (nI x) :: rest)) :=
  lv_icmp_le hexec hb hdg ht (fun h => kt ((nI_leI hx hy).mp h)) (fun h => kf fun q => h ((nI_leI hx hy).mpr q))
theorem nn_icmp_lt (hexec : p.tables.exec = Jvm.exec) (hb : c.code = cc) {x y : Nat} (hx : x < 2 ^ 31) (hy : y < 2 ^ 31) {off : Int} {tgt : Nat} (hdg : decode cc pc = .ok (.if_icmp .lt off, 3)) (ht : (pc : Int) + off = (tgt : Int))
    (kt : x < y → W p l e R s m args below meth c H locs cells slots Q (F0 m tgt ls rest)) (kf : ¬ x < y → W p l e R s m args below meth c H locs cells slots Q (F0 m (pc + 3) ls rest)) : W p l e R s m args below meth c H locs cells slots Q (F0 m pc ls (.int (nI y) :: .int (nI x) :: rest)) :=
  lv_icmp_lt hexec hb hdg ht (fun h => kt ((nI_ltI hx hy).mp h)) (fun h => kf fun q => h ((nI_ltI hx hy).mpr q))
theorem nn_icmp_eq (hexec : p.tables.exec = Jvm.exec) (hb : c.code = cc) {x y : Nat} (hx : x < 2 ^ 31) (hy : y < 2 ^ 31) {off : Int} {tgt : Nat} (hdg : decode cc pc = .ok (.if_icmp .eq off, 3)) (ht : (pc : Int) + off = (tgt : Int))
    (kt : x = y → W p l e R s m args below meth c H locs cells slots Q (F0 m tgt ls rest)) (kf : ¬ x = y → W p l e R s m args below meth c H locs cells slots Q (F0 m (pc + 3) ls rest)) : W p l e R s m args below meth c H locs cells slots Q (F0 m pc ls (.int (nI y) :: .int (nI x) :: rest)) :=
  lv_icmp_eq hexec hb hdg ht (fun h => kt ((nI_eq hx hy).mp h)) (fun h => kf fun q => h ((nI_eq hx hy).mpr q))
theorem nn_icmp_ne (hexec : p.tables.exec = Jvm.exec) (hb : c.code = cc) {x y : Nat} (hx : x < 2 ^ 31) (hy : y < 2 ^ 31) {off : Int} {tgt : Nat} (hdg : decode cc pc = .ok (.if_icmp .ne off, 3)) (ht : (pc : Int) + off = (tgt : Int))
    (kt : ¬ x = y → W p l e R s m args below meth c H locs cells slots Q (F0 m tgt ls rest)) (kf : x = y → W p l e R s m args below meth c H locs cells slots Q (F0 m (pc + 3) ls rest)) : W p l e R s m args below meth c H locs cells slots Q (F0 m pc ls (.int (nI y) :: .int (nI x) :: rest)) :=
  lv_icmp_ne hexec hb hdg ht (fun h => kt fun q => h ((nI_eq hx hy).mpr q)) (fun h => kf ((nI_eq hx hy).mp h))
end KC
/-- what a call of y from the class own asks of the tables -/
def kCW (s : State) (args : Array Value) (own : String) (index : Nat) (y : MethodName) (bytes : ByteArray) (maxL : Nat) (ret : Option FieldType) (n : Nat) : Prop :=
  (∀ (a' : Array Value) (U : State), s.WarmedH U.vm → (Cond.code y bytes maxL ret).before a' U = true) ∧ (Cond.initialized y.cls).before args s = true ∧ (y.cls ≠ "java/lang/invoke/MethodHandle" ∧ y.cls ≠ "java/lang/invoke/VarHandle") ∧ (∀ sig, parseMethodDescriptor y.desc = some sig → n = sig.parameters.length) ∧ (Cond.methodLink own index y).before args s = true
/-- the same, of a nest mate's private method -/
def kCN (s : State) (args : Array Value) (own : String) (index : Nat) (y : MethodName) (host : String) (bytes : ByteArray) (maxL : Nat) (ret : Option FieldType) (n : Nat) : Prop :=
  (∀ (a' : Array Value) (U : State), s.WarmedH U.vm → (Cond.code y bytes maxL ret).before a' U = true) ∧ (Cond.initialized y.cls).before args s = true ∧ (y.cls ≠ "java/lang/invoke/MethodHandle" ∧ y.cls ≠ "java/lang/invoke/VarHandle") ∧ (∀ sig, parseMethodDescriptor y.desc = some sig → n = sig.parameters.length) ∧ (Cond.methodLinkNest own index y host).before args s = true
/-- the callee's room fits -/
def kRm (R rm : Room) (maxL : Nat) : Prop := rm.cells = 0 ∧ rm.slots = 0 ∧ rm.frames + 1 ≤ R.frames ∧ 8 + (maxL + 11) + rm.locals ≤ R.locals
section KD
variable {p : Program} {l : Launch} {e : Env} {R : Room} {s : State} {m : MethodId} {args : Array Value} {below : List Frame} {meth : Method} {c : Code} {H : Heap} {locs : List Loc} {cells slots : Nat} {Q : State → Prop}
variable {cc bytes : ByteArray} {pc : Nat} {ls : Array Slot} {rest st0 As : List Value} {D : va_G} {cl : List vw_C} {A A0 : Nat → Prop} {wc ws : va_W} {y : MethodName} {maxL nL n index : Nat} {ret : Option FieldType} {rm : Room} {own C host : String} {b : Addr} {z : State} {cI cZ cJ : ClassId} {Qc : Array Value → State → Outcome → State → Prop} {free : Addr → Prop}
theorem kr_S (hx : p.tables.exec = Jvm.exec) (hb : c.code = cc) (hml : c.maxLocals = nL) (hown : s.vm.findClass own = some m.cls) (hZ : z.WarmedH s.vm) (hM : Met l y [Cond.code y bytes maxL ret] rm (va_Pc As (PreW z D cl cI cZ cJ H.size wc)) Qc 0 0 free) (hc : kCW s args own index y bytes maxL ret n) (hst : (Cond.static y).before args s = true) (hrm : kRm R rm maxL)
    (hPc : va_P D cl wc H) (hK : va_K D cl (wK cI cZ cJ) s) (hDc : va_D A wc) (hn : As.length = n) (hsize : ls.size = nL) (hstack : st0 = As.reverse ++ rest) (hW : (rest.map fun v => v.category).sum ≤ 8) (hdg : decode cc pc = .ok (.invokestatic index, 3)) (hcl : cells ≤ R.cells) (hsl : slots ≤ R.slots) :
    va_Run p l e R s m args below meth c H locs cells slots 0 0 (F0 m pc ls st0) rest (Qc As.toArray) free :=
  va_runS (Ts := []) ⟨hx, hb, hml, hown, fun _ h => by cases h⟩ hM ⟨⟨hrm.1, hrm.2.1, hrm.2.2.1, hrm.2.2.2, fun w hw a' U hU => by rcases List.mem_singleton.mp hw with rfl; exact hc.1 a' U hU, List.mem_singleton.mpr rfl, hc.1 args s (State.WarmedH.refl s), hc.2.1, hc.2.2.1, hc.2.2.2.1, hc.2.2.2.2⟩, hst⟩ ⟨PreW.blind, PreW.pay hZ hPc hK hDc⟩ rfl hn hsize hstack (lv_room hW) hdg ⟨hcl, hsl⟩
theorem kr_SN (hx : p.tables.exec = Jvm.exec) (hb : c.code = cc) (hml : c.maxLocals = nL) (hown : s.vm.findClass own = some m.cls) (hZ : z.WarmedH s.vm) (hM : Met l y [Cond.code y bytes maxL ret] rm (va_Pc As (PreW z D cl cI cZ cJ H.size wc)) Qc 0 0 free) (hc : kCN s args own index y host bytes maxL ret n) (hst : (Cond.static y).before args s = true) (hrm : kRm R rm maxL)
    (hPc : va_P D cl wc H) (hK : va_K D cl (wK cI cZ cJ) s) (hDc : va_D A wc) (hn : As.length = n) (hsize : ls.size = nL) (hstack : st0 = As.reverse ++ rest) (hW : (rest.map fun v => v.category).sum ≤ 8) (hdg : decode cc pc = .ok (.invokestatic index, 3)) (hcl : cells ≤ R.cells) (hsl : slots ≤ R.slots) :
    va_Run p l e R s m args below meth c H locs cells slots 0 0 (F0 m pc ls st0) rest (Qc As.toArray) free :=
  va_runSN (Ts := []) ⟨hx, hb, hml, hown, fun _ h => by cases h⟩ hM ⟨⟨⟨hrm.1, hrm.2.1, hrm.2.2.1, hrm.2.2.2, fun w hw a' U hU => by rcases List.mem_singleton.mp hw with rfl; exact hc.1 a' U hU, List.mem_singleton.mpr rfl⟩, hc.1 args s (State.WarmedH.refl s), hc.2.1, hc.2.2.1, hc.2.2.2.1, hc.2.2.2.2⟩, hst, trivial⟩ ⟨PreW.blind, PreW.pay hZ hPc hK hDc⟩ rfl hn hsize hstack (lv_room hW) hdg ⟨hcl, hsl⟩
theorem kr_V (hx : p.tables.exec = Jvm.exec) (hb : c.code = cc) (hml : c.maxLocals = nL) (hown : s.vm.findClass own = some m.cls) (hZ : z.WarmedH s.vm) (hM : Met l y [Cond.code y bytes maxL ret] rm (va_Pc (.ref b :: As) (PreW z D cl cI cZ cJ H.size wc)) Qc 0 0 free) (hc : kCW s args own index y bytes maxL ret n) (hin : (Cond.instanceMethod y).before args s = true) (hse : (Cond.selects C y y).before args s = true) (hrm : kRm R rm maxL)
    (hrecv : ∃ cell : Cell, H[b]? = some cell ∧ cell.vm.isStatics = false ∧ s.vm.findClass C = some cell.cls) (hPc : va_P D cl wc H) (hK : va_K D cl (wK cI cZ cJ) s) (hDc : va_D A wc) (hn : As.length = n) (hsize : ls.size = nL) (hstack : st0 = As.reverse ++ .ref b :: rest) (hW : (rest.map fun v => v.category).sum ≤ 8) (hdg : decode cc pc = .ok (.invokevirtual index, 3)) (hcl : cells ≤ R.cells) (hsl : slots ≤ R.slots) :
    va_Run p l e R s m args below meth c H locs cells slots 0 0 (F0 m pc ls st0) rest (Qc (Value.ref b :: As).toArray) free :=
  va_runV (Ts := []) (C := C) ⟨hx, hb, hml, hown, fun _ h => by cases h⟩ hM ⟨⟨hrm.1, hrm.2.1, hrm.2.2.1, hrm.2.2.2, fun w hw a' U hU => by rcases List.mem_singleton.mp hw with rfl; exact hc.1 a' U hU, List.mem_singleton.mpr rfl, hc.1 args s (State.WarmedH.refl s), hc.2.1, hc.2.2.1, hc.2.2.2.1, hc.2.2.2.2⟩, hin, hse⟩ ⟨PreW.blind, hrecv, PreW.pay hZ hPc hK hDc⟩ rfl hn hsize hstack (lv_room hW) hdg ⟨hcl, hsl⟩
theorem kc_i {S : Type} {post : Int32 → S → Prop} {w1 : S → va_W} {a : Array Value} (hr : va_Run p l e R s m args below meth c H locs cells slots 0 0 (F0 m pc ls st0) rest (va_Qi post (fun u => PostW D cl (va_A wc H.size) (w1 u)) (va_A wc H.size) a) (va_A wc H.size)) (hP : va_P D cl ws H) (hD : va_D A ws) (hS : va_S A s.heap H locs) (hA : ∀ q, s.heap.size ≤ q → A q)
    (isC : List Nat) (hC : isC.map (fun i => ws[i]?) = wc.map some) (hlen : ∀ u, isC.length = (w1 u).length) (hadr : ∀ u, (wput ws isC (w1 u)).map (·.1) = ws.map (·.1))
    (kk : ∀ (r : Int32) (u : S) (H1 : Heap) (locs1 : List Loc), post r u → va_P D cl (wput ws isC (w1 u)) H1 → va_D A (wput ws isC (w1 u)) → va_S A s.heap H1 locs1 → W p l e R s m args below meth c H1 locs1 cells slots Q (F0 m (pc + 3) ls (.int r :: rest))) : W p l e R s m args below meth c H locs cells slots Q (F0 m pc ls st0) := by
  have hF := va_free (wc := wc) hD hS hA isC hC
  refine va_calli hr hS (fun q _ h => hF q h) hF (fun r u t H1 locs1 ht hvm hw hB hz hk hS1 => ?_)
  have hP1 : va_P D cl (w1 u) H1 := by rw [← ht]; exact hB.1
  obtain ⟨h1, h2⟩ := wback hP hD isC hC (hlen u) (hadr u) hk hP1
  exact kk r u H1 locs1 hw h1 h2 hS1
theorem kc_l {S : Type} {post : Int64 → S → Prop} {w1 : S → va_W} {a : Array Value} (hr : va_Run p l e R s m args below meth c H locs cells slots 0 0 (F0 m pc ls st0) rest (va_Ql post (fun u => PostW D cl (va_A wc H.size) (w1 u)) (va_A wc H.size) a) (va_A wc H.size)) (hP : va_P D cl ws H) (hD : va_D A ws) (hS : va_S A s.heap H locs) (hA : ∀ q, s.heap.size ≤ q → A q)
    (isC : List Nat) (hC : isC.map (fun i => ws[i]?) = wc.map some) (hlen : ∀ u, isC.length = (w1 u).length) (hadr : ∀ u, (wput ws isC (w1 u)).map (·.1) = ws.map (·.1))
    (kk : ∀ (r : Int64) (u : S) (H1 : Heap) (locs1 : List Loc), post r u → va_P D cl (wput ws isC (w1 u)) H1 → va_D A (wput ws isC (w1 u)) → va_S A s.heap H1 locs1 → W p l e R s m args below meth c H1 locs1 cells slots Q (F0 m (pc + 3) ls (.long r :: rest))) : W p l e R s m args below meth c H locs cells slots Q (F0 m pc ls st0) := by
  have hF := va_free (wc := wc) hD hS hA isC hC
  refine va_calll hr hS (fun q _ h => hF q h) hF (fun r u t H1 locs1 ht hvm hw hB hz hk hS1 => ?_)
  have hP1 : va_P D cl (w1 u) H1 := by rw [← ht]; exact hB.1
  obtain ⟨h1, h2⟩ := wback hP hD isC hC (hlen u) (hadr u) hk hP1
  exact kk r u H1 locs1 hw h1 h2 hS1
theorem kc_v {S : Type} {post : S → Prop} {w1 : S → va_W} {a : Array Value} (hr : va_Run p l e R s m args below meth c H locs cells slots 0 0 (F0 m pc ls st0) rest (va_Qv post (fun u => PostW D cl (va_A wc H.size) (w1 u)) (va_A wc H.size) a) (va_A wc H.size)) (hP : va_P D cl ws H) (hD : va_D A ws) (hS : va_S A s.heap H locs) (hA : ∀ q, s.heap.size ≤ q → A q)
    (isC : List Nat) (hC : isC.map (fun i => ws[i]?) = wc.map some) (hlen : ∀ u, isC.length = (w1 u).length) (hadr : ∀ u, (wput ws isC (w1 u)).map (·.1) = ws.map (·.1))
    (kk : ∀ (u : S) (H1 : Heap) (locs1 : List Loc), post u → va_P D cl (wput ws isC (w1 u)) H1 → va_D A (wput ws isC (w1 u)) → va_S A s.heap H1 locs1 → W p l e R s m args below meth c H1 locs1 cells slots Q (F0 m (pc + 3) ls rest)) : W p l e R s m args below meth c H locs cells slots Q (F0 m pc ls st0) := by
  have hF := va_free (wc := wc) hD hS hA isC hC
  refine va_callv hr hS (fun q _ h => hF q h) hF (fun u t H1 locs1 ht hvm hw hB hz hk hS1 => ?_)
  have hP1 : va_P D cl (w1 u) H1 := by rw [← ht]; exact hB.1
  obtain ⟨h1, h2⟩ := wback hP hD isC hC (hlen u) (hadr u) hk hP1
  exact kk u H1 locs1 hw h1 h2 hS1
end KD
section KE
variable {p : Program} {l : Launch} {e : Env} {R : Room} {s : State} {m : MethodId} {args : Array Value} {below : List Frame} {meth : Method} {c : Code} {H : Heap} {locs : List Loc} {cells slots : Nat} {Q Q2 : State → Prop}
theorem W.mono {g : JFrame} (h : W p l e R s m args below meth c H locs cells slots Q g) (hQ : ∀ t, Q t → Q2 t) : W p l e R s m args below meth c H locs cells slots Q2 g := fun T hT X => by
  obtain ⟨t, a, b⟩ := h T hT X
  exact ⟨t, a, hQ t b⟩
theorem Met.ofQ {y : MethodName} {ws ws' : List Cond} {rm : Room} {Pc : Array Value → State → Prop} {Qc : Array Value → State → Outcome → State → Prop} {mc ms : Nat} {free : Addr → Prop} {cc : ByteArray} {maxL : Nat} {ret : Option FieldType}
    (hy : plainName y.cls = true) (hw : ws = Cond.code y cc maxL ret :: ws')
    (body : ∀ p e s m args below meth c s₁ (Q : State → Prop), BodyLoose p l y (headSpec ws rm) cc maxL ret e s m args below meth c s₁ → c.maxLocals = maxL → Pc args s → (∀ t, MQ below Qc args s mc ms free t → Q t) →
      W p l e rm s m args below meth c s.heap [] 0 0 Q (entryFrame m args maxL)) : Met l y ws rm Pc Qc mc ms free :=
  Met.ofW hy hw (fun p e s m args below meth c s₁ B hml hP => body p e s m args below meth c s₁ _ B hml hP (fun _ h => h))
end KE
theorem kc_pair {α β : Type} {r : α} {u : β} {x : α × β} (h : (r, u) = x) : r = x.1 ∧ u = x.2 := by rw [← h]; exact ⟨rfl, rfl⟩
section KF
variable {l : Launch}
theorem Met.ofQF {y : MethodName} {ws ws' : List Cond} {rm : Room} {Pc : Array Value → State → Prop} {Qc : Array Value → State → Outcome → State → Prop} {mc ms : Nat} {free : Addr → Prop} {cc : ByteArray} {maxL : Nat} {ret : Option FieldType}
    (hy : plainFor y = true) (hw : ws = Cond.code y cc maxL ret :: ws')
    (body : ∀ p e s m args below meth c s₁ (Q : State → Prop), BodyLoose p l y (headSpec ws rm) cc maxL ret e s m args below meth c s₁ → c.maxLocals = maxL → Pc args s → (∀ t, MQ below Qc args s mc ms free t → Q t) →
      W p l e rm s m args below meth c s.heap [] 0 0 Q (entryFrame m args maxL)) : Met l y ws rm Pc Qc mc ms free := by
  refine MetFree.of_bodySF (code := cc) (maxLocals := maxL) (ret := ret) hy ?_ ?_
  · intro args s m h hn
    obtain ⟨meth, c, h1, h2, h3, h4, h5, h6, -, -⟩ := Cond.code_spec hn (atoms_spec (ws := ws) h _ (by rw [hw]; exact List.mem_cons_self))
    exact ⟨meth, c, h1, h2, h3, h4, h5, h6⟩
  · intro p e s m args below meth c s₁ B hml hP _
    have hh0 : s₁.heap = s.heap := by rw [B.state]; rfl
    obtain ⟨t, a1, o, b1, b2, b3⟩ := body p e s m args below meth c s₁ _ B hml hP (fun _ h => h) s₁ hh0 (Stand.of_body B)
    exact ⟨t, o, a1, b1, b2, ⟨b3.1, b3.2⟩⟩
end KF
def ap1 {A0 Y : Type} (x : A0) (f : A0 → Y) : Y := f x
theorem kc_ap1 {A0 Y : Type} (f : A0 → Y) {t : Y} {x : A0} {b0 : A0} (h9 : b0 = x) (h : t = ap1 x f) : t = f b0 := by rw [← h9] at h; exact h
theorem kc_ap1w {A0 Y Z : Type} (w : Y → Z) (f : A0 → Y) {t : Z} {x : A0} {b0 : A0} (h9 : b0 = x) (h : t = w (ap1 x f)) : t = w (f b0) := by rw [← h9] at h; exact h
def ap2 {A0 A1 Y : Type} (x : A0 × A1) (f : A0 → A1 → Y) : Y := f x.1 x.2
theorem kc_ap2 {A0 A1 Y : Type} (f : A0 → A1 → Y) {t : Y} {x : A0 × A1} {b0 : A0} {b1 : A1} (h9 : (b0, b1) = x) (h : t = ap2 x f) : t = f b0 b1 := by rw [← h9] at h; exact h
theorem kc_ap2w {A0 A1 Y Z : Type} (w : Y → Z) (f : A0 → A1 → Y) {t : Z} {x : A0 × A1} {b0 : A0} {b1 : A1} (h9 : (b0, b1) = x) (h : t = w (ap2 x f)) : t = w (f b0 b1) := by rw [← h9] at h; exact h
def ap3 {A0 A1 A2 Y : Type} (x : A0 × A1 × A2) (f : A0 → A1 → A2 → Y) : Y := f x.1 x.2.1 x.2.2
theorem kc_ap3 {A0 A1 A2 Y : Type} (f : A0 → A1 → A2 → Y) {t : Y} {x : A0 × A1 × A2} {b0 : A0} {b1 : A1} {b2 : A2} (h9 : (b0, b1, b2) = x) (h : t = ap3 x f) : t = f b0 b1 b2 := by rw [← h9] at h; exact h
theorem kc_ap3w {A0 A1 A2 Y Z : Type} (w : Y → Z) (f : A0 → A1 → A2 → Y) {t : Z} {x : A0 × A1 × A2} {b0 : A0} {b1 : A1} {b2 : A2} (h9 : (b0, b1, b2) = x) (h : t = w (ap3 x f)) : t = w (f b0 b1 b2) := by rw [← h9] at h; exact h
def ap4 {A0 A1 A2 A3 Y : Type} (x : A0 × A1 × A2 × A3) (f : A0 → A1 → A2 → A3 → Y) : Y := f x.1 x.2.1 x.2.2.1 x.2.2.2
theorem kc_ap4 {A0 A1 A2 A3 Y : Type} (f : A0 → A1 → A2 → A3 → Y) {t : Y} {x : A0 × A1 × A2 × A3} {b0 : A0} {b1 : A1} {b2 : A2} {b3 : A3} (h9 : (b0, b1, b2, b3) = x) (h : t = ap4 x f) : t = f b0 b1 b2 b3 := by rw [← h9] at h; exact h
theorem kc_ap4w {A0 A1 A2 A3 Y Z : Type} (w : Y → Z) (f : A0 → A1 → A2 → A3 → Y) {t : Z} {x : A0 × A1 × A2 × A3} {b0 : A0} {b1 : A1} {b2 : A2} {b3 : A3} (h9 : (b0, b1, b2, b3) = x) (h : t = w (ap4 x f)) : t = w (f b0 b1 b2 b3) := by rw [← h9] at h; exact h
def ap5 {A0 A1 A2 A3 A4 Y : Type} (x : A0 × A1 × A2 × A3 × A4) (f : A0 → A1 → A2 → A3 → A4 → Y) : Y := f x.1 x.2.1 x.2.2.1 x.2.2.2.1 x.2.2.2.2
theorem kc_ap5 {A0 A1 A2 A3 A4 Y : Type} (f : A0 → A1 → A2 → A3 → A4 → Y) {t : Y} {x : A0 × A1 × A2 × A3 × A4} {b0 : A0} {b1 : A1} {b2 : A2} {b3 : A3} {b4 : A4} (h9 : (b0, b1, b2, b3, b4) = x) (h : t = ap5 x f) : t = f b0 b1 b2 b3 b4 := by rw [← h9] at h; exact h
theorem kc_ap5w {A0 A1 A2 A3 A4 Y Z : Type} (w : Y → Z) (f : A0 → A1 → A2 → A3 → A4 → Y) {t : Z} {x : A0 × A1 × A2 × A3 × A4} {b0 : A0} {b1 : A1} {b2 : A2} {b3 : A3} {b4 : A4} (h9 : (b0, b1, b2, b3, b4) = x) (h : t = w (ap5 x f)) : t = w (f b0 b1 b2 b3 b4) := by rw [← h9] at h; exact h
def ap6 {A0 A1 A2 A3 A4 A5 Y : Type} (x : A0 × A1 × A2 × A3 × A4 × A5) (f : A0 → A1 → A2 → A3 → A4 → A5 → Y) : Y := f x.1 x.2.1 x.2.2.1 x.2.2.2.1 x.2.2.2.2.1 x.2.2.2.2.2
theorem kc_ap6 {A0 A1 A2 A3 A4 A5 Y : Type} (f : A0 → A1 → A2 → A3 → A4 → A5 → Y) {t : Y} {x : A0 × A1 × A2 × A3 × A4 × A5} {b0 : A0} {b1 : A1} {b2 : A2} {b3 : A3} {b4 : A4} {b5 : A5} (h9 : (b0, b1, b2, b3, b4, b5) = x) (h : t = ap6 x f) : t = f b0 b1 b2 b3 b4 b5 := by rw [← h9] at h; exact h
theorem kc_ap6w {A0 A1 A2 A3 A4 A5 Y Z : Type} (w : Y → Z) (f : A0 → A1 → A2 → A3 → A4 → A5 → Y) {t : Z} {x : A0 × A1 × A2 × A3 × A4 × A5} {b0 : A0} {b1 : A1} {b2 : A2} {b3 : A3} {b4 : A4} {b5 : A5} (h9 : (b0, b1, b2, b3, b4, b5) = x) (h : t = w (ap6 x f)) : t = w (f b0 b1 b2 b3 b4 b5) := by rw [← h9] at h; exact h
def ap7 {A0 A1 A2 A3 A4 A5 A6 Y : Type} (x : A0 × A1 × A2 × A3 × A4 × A5 × A6) (f : A0 → A1 → A2 → A3 → A4 → A5 → A6 → Y) : Y := f x.1 x.2.1 x.2.2.1 x.2.2.2.1 x.2.2.2.2.1 x.2.2.2.2.2.1 x.2.2.2.2.2.2
theorem kc_ap7 {A0 A1 A2 A3 A4 A5 A6 Y : Type} (f : A0 → A1 → A2 → A3 → A4 → A5 → A6 → Y) {t : Y} {x : A0 × A1 × A2 × A3 × A4 × A5 × A6} {b0 : A0} {b1 : A1} {b2 : A2} {b3 : A3} {b4 : A4} {b5 : A5} {b6 : A6} (h9 : (b0, b1, b2, b3, b4, b5, b6) = x) (h : t = ap7 x f) : t = f b0 b1 b2 b3 b4 b5 b6 := by rw [← h9] at h; exact h
theorem kc_ap7w {A0 A1 A2 A3 A4 A5 A6 Y Z : Type} (w : Y → Z) (f : A0 → A1 → A2 → A3 → A4 → A5 → A6 → Y) {t : Z} {x : A0 × A1 × A2 × A3 × A4 × A5 × A6} {b0 : A0} {b1 : A1} {b2 : A2} {b3 : A3} {b4 : A4} {b5 : A5} {b6 : A6} (h9 : (b0, b1, b2, b3, b4, b5, b6) = x) (h : t = w (ap7 x f)) : t = w (f b0 b1 b2 b3 b4 b5 b6) := by rw [← h9] at h; exact h
def ap8 {A0 A1 A2 A3 A4 A5 A6 A7 Y : Type} (x : A0 × A1 × A2 × A3 × A4 × A5 × A6 × A7) (f : A0 → A1 → A2 → A3 → A4 → A5 → A6 → A7 → Y) : Y := f x.1 x.2.1 x.2.2.1 x.2.2.2.1 x.2.2.2.2.1 x.2.2.2.2.2.1 x.2.2.2.2.2.2.1 x.2.2.2.2.2.2.2
theorem kc_ap8 {A0 A1 A2 A3 A4 A5 A6 A7 Y : Type} (f : A0 → A1 → A2 → A3 → A4 → A5 → A6 → A7 → Y) {t : Y} {x : A0 × A1 × A2 × A3 × A4 × A5 × A6 × A7} {b0 : A0} {b1 : A1} {b2 : A2} {b3 : A3} {b4 : A4} {b5 : A5} {b6 : A6} {b7 : A7} (h9 : (b0, b1, b2, b3, b4, b5, b6, b7) = x) (h : t = ap8 x f) : t = f b0 b1 b2 b3 b4 b5 b6 b7 := by rw [← h9] at h; exact h
theorem kc_ap8w {A0 A1 A2 A3 A4 A5 A6 A7 Y Z : Type} (w : Y → Z) (f : A0 → A1 → A2 → A3 → A4 → A5 → A6 → A7 → Y) {t : Z} {x : A0 × A1 × A2 × A3 × A4 × A5 × A6 × A7} {b0 : A0} {b1 : A1} {b2 : A2} {b3 : A3} {b4 : A4} {b5 : A5} {b6 : A6} {b7 : A7} (h9 : (b0, b1, b2, b3, b4, b5, b6, b7) = x) (h : t = w (ap8 x f)) : t = w (f b0 b1 b2 b3 b4 b5 b6 b7) := by rw [← h9] at h; exact h
def ap9 {A0 A1 A2 A3 A4 A5 A6 A7 A8 Y : Type} (x : A0 × A1 × A2 × A3 × A4 × A5 × A6 × A7 × A8) (f : A0 → A1 → A2 → A3 → A4 → A5 → A6 → A7 → A8 → Y) : Y := f x.1 x.2.1 x.2.2.1 x.2.2.2.1 x.2.2.2.2.1 x.2.2.2.2.2.1 x.2.2.2.2.2.2.1 x.2.2.2.2.2.2.2.1 x.2.2.2.2.2.2.2.2
theorem kc_ap9 {A0 A1 A2 A3 A4 A5 A6 A7 A8 Y : Type} (f : A0 → A1 → A2 → A3 → A4 → A5 → A6 → A7 → A8 → Y) {t : Y} {x : A0 × A1 × A2 × A3 × A4 × A5 × A6 × A7 × A8} {b0 : A0} {b1 : A1} {b2 : A2} {b3 : A3} {b4 : A4} {b5 : A5} {b6 : A6} {b7 : A7} {b8 : A8} (h9 : (b0, b1, b2, b3, b4, b5, b6, b7, b8) = x) (h : t = ap9 x f) : t = f b0 b1 b2 b3 b4 b5 b6 b7 b8 := by rw [← h9] at h; exact h
theorem kc_ap9w {A0 A1 A2 A3 A4 A5 A6 A7 A8 Y Z : Type} (w : Y → Z) (f : A0 → A1 → A2 → A3 → A4 → A5 → A6 → A7 → A8 → Y) {t : Z} {x : A0 × A1 × A2 × A3 × A4 × A5 × A6 × A7 × A8} {b0 : A0} {b1 : A1} {b2 : A2} {b3 : A3} {b4 : A4} {b5 : A5} {b6 : A6} {b7 : A7} {b8 : A8} (h9 : (b0, b1, b2, b3, b4, b5, b6, b7, b8) = x) (h : t = w (ap9 x f)) : t = w (f b0 b1 b2 b3 b4 b5 b6 b7 b8) := by rw [← h9] at h; exact h
def ap10 {A0 A1 A2 A3 A4 A5 A6 A7 A8 A9 Y : Type} (x : A0 × A1 × A2 × A3 × A4 × A5 × A6 × A7 × A8 × A9) (f : A0 → A1 → A2 → A3 → A4 → A5 → A6 → A7 → A8 → A9 → Y) : Y := f x.1 x.2.1 x.2.2.1 x.2.2.2.1 x.2.2.2.2.1 x.2.2.2.2.2.1 x.2.2.2.2.2.2.1 x.2.2.2.2.2.2.2.1 x.2.2.2.2.2.2.2.2.1 x.2.2.2.2.2.2.2.2.2
theorem kc_ap10 {A0 A1 A2 A3 A4 A5 A6 A7 A8 A9 Y : Type} (f : A0 → A1 → A2 → A3 → A4 → A5 → A6 → A7 → A8 → A9 → Y) {t : Y} {x : A0 × A1 × A2 × A3 × A4 × A5 × A6 × A7 × A8 × A9} {b0 : A0} {b1 : A1} {b2 : A2} {b3 : A3} {b4 : A4} {b5 : A5} {b6 : A6} {b7 : A7} {b8 : A8} {b9 : A9} (h9 : (b0, b1, b2, b3, b4, b5, b6, b7, b8, b9) = x) (h : t = ap10 x f) : t = f b0 b1 b2 b3 b4 b5 b6 b7 b8 b9 := by rw [← h9] at h; exact h
theorem kc_ap10w {A0 A1 A2 A3 A4 A5 A6 A7 A8 A9 Y Z : Type} (w : Y → Z) (f : A0 → A1 → A2 → A3 → A4 → A5 → A6 → A7 → A8 → A9 → Y) {t : Z} {x : A0 × A1 × A2 × A3 × A4 × A5 × A6 × A7 × A8 × A9} {b0 : A0} {b1 : A1} {b2 : A2} {b3 : A3} {b4 : A4} {b5 : A5} {b6 : A6} {b7 : A7} {b8 : A8} {b9 : A9} (h9 : (b0, b1, b2, b3, b4, b5, b6, b7, b8, b9) = x) (h : t = w (ap10 x f)) : t = w (f b0 b1 b2 b3 b4 b5 b6 b7 b8 b9) := by rw [← h9] at h; exact h
def ap11 {A0 A1 A2 A3 A4 A5 A6 A7 A8 A9 A10 Y : Type} (x : A0 × A1 × A2 × A3 × A4 × A5 × A6 × A7 × A8 × A9 × A10) (f : A0 → A1 → A2 → A3 → A4 → A5 → A6 → A7 → A8 → A9 → A10 → Y) : Y := f x.1 x.2.1 x.2.2.1 x.2.2.2.1 x.2.2.2.2.1 x.2.2.2.2.2.1 x.2.2.2.2.2.2.1 x.2.2.2.2.2.2.2.1 x.2.2.2.2.2.2.2.2.1 x.2.2.2.2.2.2.2.2.2.1 x.2.2.2.2.2.2.2.2.2.2
theorem kc_ap11 {A0 A1 A2 A3 A4 A5 A6 A7 A8 A9 A10 Y : Type} (f : A0 → A1 → A2 → A3 → A4 → A5 → A6 → A7 → A8 → A9 → A10 → Y) {t : Y} {x : A0 × A1 × A2 × A3 × A4 × A5 × A6 × A7 × A8 × A9 × A10} {b0 : A0} {b1 : A1} {b2 : A2} {b3 : A3} {b4 : A4} {b5 : A5} {b6 : A6} {b7 : A7} {b8 : A8} {b9 : A9} {b10 : A10} (h9 : (b0, b1, b2, b3, b4, b5, b6, b7, b8, b9, b10) = x) (h : t = ap11 x f) : t = f b0 b1 b2 b3 b4 b5 b6 b7 b8 b9 b10 := by rw [← h9] at h; exact h
theorem kc_ap11w {A0 A1 A2 A3 A4 A5 A6 A7 A8 A9 A10 Y Z : Type} (w : Y → Z) (f : A0 → A1 → A2 → A3 → A4 → A5 → A6 → A7 → A8 → A9 → A10 → Y) {t : Z} {x : A0 × A1 × A2 × A3 × A4 × A5 × A6 × A7 × A8 × A9 × A10} {b0 : A0} {b1 : A1} {b2 : A2} {b3 : A3} {b4 : A4} {b5 : A5} {b6 : A6} {b7 : A7} {b8 : A8} {b9 : A9} {b10 : A10} (h9 : (b0, b1, b2, b3, b4, b5, b6, b7, b8, b9, b10) = x) (h : t = w (ap11 x f)) : t = w (f b0 b1 b2 b3 b4 b5 b6 b7 b8 b9 b10) := by rw [← h9] at h; exact h
def ap12 {A0 A1 A2 A3 A4 A5 A6 A7 A8 A9 A10 A11 Y : Type} (x : A0 × A1 × A2 × A3 × A4 × A5 × A6 × A7 × A8 × A9 × A10 × A11) (f : A0 → A1 → A2 → A3 → A4 → A5 → A6 → A7 → A8 → A9 → A10 → A11 → Y) : Y := f x.1 x.2.1 x.2.2.1 x.2.2.2.1 x.2.2.2.2.1 x.2.2.2.2.2.1 x.2.2.2.2.2.2.1 x.2.2.2.2.2.2.2.1 x.2.2.2.2.2.2.2.2.1 x.2.2.2.2.2.2.2.2.2.1 x.2.2.2.2.2.2.2.2.2.2.1 x.2.2.2.2.2.2.2.2.2.2.2
theorem kc_ap12 {A0 A1 A2 A3 A4 A5 A6 A7 A8 A9 A10 A11 Y : Type} (f : A0 → A1 → A2 → A3 → A4 → A5 → A6 → A7 → A8 → A9 → A10 → A11 → Y) {t : Y} {x : A0 × A1 × A2 × A3 × A4 × A5 × A6 × A7 × A8 × A9 × A10 × A11} {b0 : A0} {b1 : A1} {b2 : A2} {b3 : A3} {b4 : A4} {b5 : A5} {b6 : A6} {b7 : A7} {b8 : A8} {b9 : A9} {b10 : A10} {b11 : A11} (h9 : (b0, b1, b2, b3, b4, b5, b6, b7, b8, b9, b10, b11) = x) (h : t = ap12 x f) : t = f b0 b1 b2 b3 b4 b5 b6 b7 b8 b9 b10 b11 := by rw [← h9] at h; exact h
theorem kc_ap12w {A0 A1 A2 A3 A4 A5 A6 A7 A8 A9 A10 A11 Y Z : Type} (w : Y → Z) (f : A0 → A1 → A2 → A3 → A4 → A5 → A6 → A7 → A8 → A9 → A10 → A11 → Y) {t : Z} {x : A0 × A1 × A2 × A3 × A4 × A5 × A6 × A7 × A8 × A9 × A10 × A11} {b0 : A0} {b1 : A1} {b2 : A2} {b3 : A3} {b4 : A4} {b5 : A5} {b6 : A6} {b7 : A7} {b8 : A8} {b9 : A9} {b10 : A10} {b11 : A11} (h9 : (b0, b1, b2, b3, b4, b5, b6, b7, b8, b9, b10, b11) = x) (h : t = w (ap12 x f)) : t = w (f b0 b1 b2 b3 b4 b5 b6 b7 b8 b9 b10 b11) := by rw [← h9] at h; exact h
def ap13 {A0 A1 A2 A3 A4 A5 A6 A7 A8 A9 A10 A11 A12 Y : Type} (x : A0 × A1 × A2 × A3 × A4 × A5 × A6 × A7 × A8 × A9 × A10 × A11 × A12) (f : A0 → A1 → A2 → A3 → A4 → A5 → A6 → A7 → A8 → A9 → A10 → A11 → A12 → Y) : Y := f x.1 x.2.1 x.2.2.1 x.2.2.2.1 x.2.2.2.2.1 x.2.2.2.2.2.1 x.2.2.2.2.2.2.1 x.2.2.2.2.2.2.2.1 x.2.2.2.2.2.2.2.2.1 x.2.2.2.2.2.2.2.2.2.1 x.2.2.2.2.2.2.2.2.2.2.1 x.2.2.2.2.2.2.2.2.2.2.2.1 x.2.2.2.2.2.2.2.2.2.2.2.2
theorem kc_ap13 {A0 A1 A2 A3 A4 A5 A6 A7 A8 A9 A10 A11 A12 Y : Type} (f : A0 → A1 → A2 → A3 → A4 → A5 → A6 → A7 → A8 → A9 → A10 → A11 → A12 → Y) {t : Y} {x : A0 × A1 × A2 × A3 × A4 × A5 × A6 × A7 × A8 × A9 × A10 × A11 × A12} {b0 : A0} {b1 : A1} {b2 : A2} {b3 : A3} {b4 : A4} {b5 : A5} {b6 : A6} {b7 : A7} {b8 : A8} {b9 : A9} {b10 : A10} {b11 : A11} {b12 : A12} (h9 : (b0, b1, b2, b3, b4, b5, b6, b7, b8, b9, b10, b11, b12) = x) (h : t = ap13 x f) : t = f b0 b1 b2 b3 b4 b5 b6 b7 b8 b9 b10 b11 b12 := by rw [← h9] at h; exact h
theorem kc_ap13w {A0 A1 A2 A3 A4 A5 A6 A7 A8 A9 A10 A11 A12 Y Z : Type} (w : Y → Z) (f : A0 → A1 → A2 → A3 → A4 → A5 → A6 → A7 → A8 → A9 → A10 → A11 → A12 → Y) {t : Z} {x : A0 × A1 × A2 × A3 × A4 × A5 × A6 × A7 × A8 × A9 × A10 × A11 × A12} {b0 : A0} {b1 : A1} {b2 : A2} {b3 : A3} {b4 : A4} {b5 : A5} {b6 : A6} {b7 : A7} {b8 : A8} {b9 : A9} {b10 : A10} {b11 : A11} {b12 : A12} (h9 : (b0, b1, b2, b3, b4, b5, b6, b7, b8, b9, b10, b11, b12) = x) (h : t = w (ap13 x f)) : t = w (f b0 b1 b2 b3 b4 b5 b6 b7 b8 b9 b10 b11 b12) := by rw [← h9] at h; exact h
def ap14 {A0 A1 A2 A3 A4 A5 A6 A7 A8 A9 A10 A11 A12 A13 Y : Type} (x : A0 × A1 × A2 × A3 × A4 × A5 × A6 × A7 × A8 × A9 × A10 × A11 × A12 × A13) (f : A0 → A1 → A2 → A3 → A4 → A5 → A6 → A7 → A8 → A9 → A10 → A11 → A12 → A13 → Y) : Y := f x.1 x.2.1 x.2.2.1 x.2.2.2.1 x.2.2.2.2.1 x.2.2.2.2.2.1 x.2.2.2.2.2.2.1 x.2.2.2.2.2.2.2.1 x.2.2.2.2.2.2.2.2.1 x.2.2.2.2.2.2.2.2.2.1 x.2.2.2.2.2.2.2.2.2.2.1 x.2.2.2.2.2.2.2.2.2.2.2.1 x.2.2.2.2.2.2.2.2.2.2.2.2.1 x.2.2.2.2.2.2.2.2.2.2.2.2.2
theorem kc_ap14 {A0 A1 A2 A3 A4 A5 A6 A7 A8 A9 A10 A11 A12 A13 Y : Type} (f : A0 → A1 → A2 → A3 → A4 → A5 → A6 → A7 → A8 → A9 → A10 → A11 → A12 → A13 → Y) {t : Y} {x : A0 × A1 × A2 × A3 × A4 × A5 × A6 × A7 × A8 × A9 × A10 × A11 × A12 × A13} {b0 : A0} {b1 : A1} {b2 : A2} {b3 : A3} {b4 : A4} {b5 : A5} {b6 : A6} {b7 : A7} {b8 : A8} {b9 : A9} {b10 : A10} {b11 : A11} {b12 : A12} {b13 : A13} (h9 : (b0, b1, b2, b3, b4, b5, b6, b7, b8, b9, b10, b11, b12, b13) = x) (h : t = ap14 x f) : t = f b0 b1 b2 b3 b4 b5 b6 b7 b8 b9 b10 b11 b12 b13 := by rw [← h9] at h; exact h
theorem kc_ap14w {A0 A1 A2 A3 A4 A5 A6 A7 A8 A9 A10 A11 A12 A13 Y Z : Type} (w : Y → Z) (f : A0 → A1 → A2 → A3 → A4 → A5 → A6 → A7 → A8 → A9 → A10 → A11 → A12 → A13 → Y) {t : Z} {x : A0 × A1 × A2 × A3 × A4 × A5 × A6 × A7 × A8 × A9 × A10 × A11 × A12 × A13} {b0 : A0} {b1 : A1} {b2 : A2} {b3 : A3} {b4 : A4} {b5 : A5} {b6 : A6} {b7 : A7} {b8 : A8} {b9 : A9} {b10 : A10} {b11 : A11} {b12 : A12} {b13 : A13} (h9 : (b0, b1, b2, b3, b4, b5, b6, b7, b8, b9, b10, b11, b12, b13) = x) (h : t = w (ap14 x f)) : t = w (f b0 b1 b2 b3 b4 b5 b6 b7 b8 b9 b10 b11 b12 b13) := by rw [← h9] at h; exact h
def ap15 {A0 A1 A2 A3 A4 A5 A6 A7 A8 A9 A10 A11 A12 A13 A14 Y : Type} (x : A0 × A1 × A2 × A3 × A4 × A5 × A6 × A7 × A8 × A9 × A10 × A11 × A12 × A13 × A14) (f : A0 → A1 → A2 → A3 → A4 → A5 → A6 → A7 → A8 → A9 → A10 → A11 → A12 → A13 → A14 → Y) : Y := f x.1 x.2.1 x.2.2.1 x.2.2.2.1 x.2.2.2.2.1 x.2.2.2.2.2.1 x.2.2.2.2.2.2.1 x.2.2.2.2.2.2.2.1 x.2.2.2.2.2.2.2.2.1 x.2.2.2.2.2.2.2.2.2.1 x.2.2.2.2.2.2.2.2.2.2.1 x.2.2.2.2.2.2.2.2.2.2.2.1 x.2.2.2.2.2.2.2.2.2.2.2.2.1 x.2.2.2.2.2.2.2.2.2.2.2.2.2.1 x.2.2.2.2.2.2.2.2.2.2.2.2.2.2
theorem kc_ap15 {A0 A1 A2 A3 A4 A5 A6 A7 A8 A9 A10 A11 A12 A13 A14 Y : Type} (f : A0 → A1 → A2 → A3 → A4 → A5 → A6 → A7 → A8 → A9 → A10 → A11 → A12 → A13 → A14 → Y) {t : Y} {x : A0 × A1 × A2 × A3 × A4 × A5 × A6 × A7 × A8 × A9 × A10 × A11 × A12 × A13 × A14} {b0 : A0} {b1 : A1} {b2 : A2} {b3 : A3} {b4 : A4} {b5 : A5} {b6 : A6} {b7 : A7} {b8 : A8} {b9 : A9} {b10 : A10} {b11 : A11} {b12 : A12} {b13 : A13} {b14 : A14} (h9 : (b0, b1, b2, b3, b4, b5, b6, b7, b8, b9, b10, b11, b12, b13, b14) = x) (h : t = ap15 x f) : t = f b0 b1 b2 b3 b4 b5 b6 b7 b8 b9 b10 b11 b12 b13 b14 := by rw [← h9] at h; exact h
theorem kc_ap15w {A0 A1 A2 A3 A4 A5 A6 A7 A8 A9 A10 A11 A12 A13 A14 Y Z : Type} (w : Y → Z) (f : A0 → A1 → A2 → A3 → A4 → A5 → A6 → A7 → A8 → A9 → A10 → A11 → A12 → A13 → A14 → Y) {t : Z} {x : A0 × A1 × A2 × A3 × A4 × A5 × A6 × A7 × A8 × A9 × A10 × A11 × A12 × A13 × A14} {b0 : A0} {b1 : A1} {b2 : A2} {b3 : A3} {b4 : A4} {b5 : A5} {b6 : A6} {b7 : A7} {b8 : A8} {b9 : A9} {b10 : A10} {b11 : A11} {b12 : A12} {b13 : A13} {b14 : A14} (h9 : (b0, b1, b2, b3, b4, b5, b6, b7, b8, b9, b10, b11, b12, b13, b14) = x) (h : t = w (ap15 x f)) : t = w (f b0 b1 b2 b3 b4 b5 b6 b7 b8 b9 b10 b11 b12 b13 b14) := by rw [← h9] at h; exact h
def ap16 {A0 A1 A2 A3 A4 A5 A6 A7 A8 A9 A10 A11 A12 A13 A14 A15 Y : Type} (x : A0 × A1 × A2 × A3 × A4 × A5 × A6 × A7 × A8 × A9 × A10 × A11 × A12 × A13 × A14 × A15) (f : A0 → A1 → A2 → A3 → A4 → A5 → A6 → A7 → A8 → A9 → A10 → A11 → A12 → A13 → A14 → A15 → Y) : Y := f x.1 x.2.1 x.2.2.1 x.2.2.2.1 x.2.2.2.2.1 x.2.2.2.2.2.1 x.2.2.2.2.2.2.1 x.2.2.2.2.2.2.2.1 x.2.2.2.2.2.2.2.2.1 x.2.2.2.2.2.2.2.2.2.1 x.2.2.2.2.2.2.2.2.2.2.1 x.2.2.2.2.2.2.2.2.2.2.2.1 x.2.2.2.2.2.2.2.2.2.2.2.2.1 x.2.2.2.2.2.2.2.2.2.2.2.2.2.1 x.2.2.2.2.2.2.2.2.2.2.2.2.2.2.1 x.2.2.2.2.2.2.2.2.2.2.2.2.2.2.2
theorem kc_ap16 {A0 A1 A2 A3 A4 A5 A6 A7 A8 A9 A10 A11 A12 A13 A14 A15 Y : Type} (f : A0 → A1 → A2 → A3 → A4 → A5 → A6 → A7 → A8 → A9 → A10 → A11 → A12 → A13 → A14 → A15 → Y) {t : Y} {x : A0 × A1 × A2 × A3 × A4 × A5 × A6 × A7 × A8 × A9 × A10 × A11 × A12 × A13 × A14 × A15} {b0 : A0} {b1 : A1} {b2 : A2} {b3 : A3} {b4 : A4} {b5 : A5} {b6 : A6} {b7 : A7} {b8 : A8} {b9 : A9} {b10 : A10} {b11 : A11} {b12 : A12} {b13 : A13} {b14 : A14} {b15 : A15} (h9 : (b0, b1, b2, b3, b4, b5, b6, b7, b8, b9, b10, b11, b12, b13, b14, b15) = x) (h : t = ap16 x f) : t = f b0 b1 b2 b3 b4 b5 b6 b7 b8 b9 b10 b11 b12 b13 b14 b15 := by rw [← h9] at h; exact h
theorem kc_ap16w {A0 A1 A2 A3 A4 A5 A6 A7 A8 A9 A10 A11 A12 A13 A14 A15 Y Z : Type} (w : Y → Z) (f : A0 → A1 → A2 → A3 → A4 → A5 → A6 → A7 → A8 → A9 → A10 → A11 → A12 → A13 → A14 → A15 → Y) {t : Z} {x : A0 × A1 × A2 × A3 × A4 × A5 × A6 × A7 × A8 × A9 × A10 × A11 × A12 × A13 × A14 × A15} {b0 : A0} {b1 : A1} {b2 : A2} {b3 : A3} {b4 : A4} {b5 : A5} {b6 : A6} {b7 : A7} {b8 : A8} {b9 : A9} {b10 : A10} {b11 : A11} {b12 : A12} {b13 : A13} {b14 : A14} {b15 : A15} (h9 : (b0, b1, b2, b3, b4, b5, b6, b7, b8, b9, b10, b11, b12, b13, b14, b15) = x) (h : t = w (ap16 x f)) : t = w (f b0 b1 b2 b3 b4 b5 b6 b7 b8 b9 b10 b11 b12 b13 b14 b15) := by rw [← h9] at h; exact h
theorem map_at {α β : Type} {is : List Nat} {f : Nat → Option α} {w : List α} (h : is.map f = w.map some) {j k : Nat} (hj : is[j]? = some k) : f k = w[j]? := by
  have h1 : (is.map f)[j]? = some (f k) := by simp [hj]
  rw [h] at h1
  cases hw : w[j]? with
  | none => simp [hw] at h1
  | some x => simp [hw] at h1; exact h1.symm
theorem wback2 {A0 : Nat → Prop} {D : va_G} {cl : List vw_C} {ws wc w1 ws' : va_W} {H H1 : Heap} (hP : va_P D cl ws H) (hD : va_D A0 ws) (n : Nat) (isC isR : List Nat) (hC : isC.map (fun i => ws[i]?) = wc.map some) (hC' : isC.map (fun i => ws'[i]?) = w1.map some) (hR' : isR.map (fun i => ws'[i]?) = isR.map (fun i => ws[i]?))
    (hall : (List.range n).all (fun k => isC.contains k || isR.contains k) = true) (hdis : isR.all (fun k => !isC.contains k) = true) (ha : w1.map (·.1) = wc.map (·.1)) (hn' : ws'.length = n) (hn : ws.length = n)
    (hk : ∀ q : Nat, q < H.size → ¬ va_A wc H.size q → H1[q]? = H[q]?) (hP1 : va_P D cl w1 H1) : va_P D cl ws' H1 ∧ va_D A0 ws' := by
  have split : ∀ k, k < n → (∃ j : Nat, isC[j]? = some k) ∨ (k ∉ isC ∧ ws'[k]? = ws[k]?) := by
    intro k hkn
    have h1 := List.all_eq_true.mp hall k (List.mem_range.mpr hkn)
    simp only [Bool.or_eq_true, List.contains_iff_mem] at h1
    rcases h1 with h1 | h1
    · exact Or.inl (List.getElem?_of_mem h1)
    · have h2 := List.all_eq_true.mp hdis k h1
      simp at h2
      obtain ⟨j, hj⟩ := List.getElem?_of_mem h1
      have h3 : (isR.map (fun i => ws'[i]?))[j]? = some (ws'[k]?) := by simp [hj]
      rw [hR'] at h3
      simp [hj] at h3
      exact Or.inr ⟨h2, h3.symm⟩
  refine ⟨fun k q hq => ?_, hD.adr ?_⟩
  · have hkn : k < n := by rw [← hn']; exact (List.getElem?_eq_some_iff.mp hq).1
    rcases split k hkn with ⟨j, hj⟩ | ⟨h1, h2⟩
    · have h3 := map_at (β := Nat) hC' hj
      exact hP1 j q (by rw [← h3]; exact hq)
    · rw [h2] at hq
      have hl := (hP k q hq).lt
      refine (hP k q hq).kept (hk q.1 hl fun h => ?_)
      rcases h with ⟨k2, e, h⟩ | h
      · have h3 : (wc.map some)[k2]? = some (some (q.1, e)) := by simp [h]
        rw [← hC] at h3
        simp only [List.getElem?_map, Option.map_eq_some_iff] at h3
        obtain ⟨i, h4, h5⟩ := h3
        have hki := hD.1 k i q (q.1, e) hq h5 rfl
        subst hki
        exact h1 (List.mem_of_getElem? h4)
      · omega
  · refine List.ext_getElem? fun k => ?_
    simp only [List.getElem?_map]
    by_cases hkn : k < n
    · rcases split k hkn with ⟨j, hj⟩ | ⟨h1, h2⟩
      · rw [show ws'[k]? = w1[j]? from map_at (β := Nat) hC' hj, show ws[k]? = wc[j]? from map_at (β := Nat) hC hj]
        have := congrArg (fun l : List Nat => l[j]?) ha
        simpa only [List.getElem?_map] using this
      · rw [h2]
    · rw [List.getElem?_eq_none (by omega), List.getElem?_eq_none (by omega)]
section KH
variable {p : Program} {l : Launch} {e : Env} {R : Room} {s : State} {m : MethodId} {args : Array Value} {below : List Frame} {meth : Method} {c : Code} {H : Heap} {locs : List Loc} {cells slots : Nat} {Q : State → Prop}
variable {pc : Nat} {ls : Array Slot} {rest st0 : List Value} {D : va_G} {cl : List vw_C} {A : Nat → Prop} {wc ws : va_W}
theorem ke_i {S : Type} {post : Int32 → S → Prop} {w1 : S → va_W} {a : Array Value} (ws' : S → va_W) (hr : va_Run p l e R s m args below meth c H locs cells slots 0 0 (F0 m pc ls st0) rest (va_Qi post (fun u => PostW D cl (va_A wc H.size) (w1 u)) (va_A wc H.size) a) (va_A wc H.size)) (hP : va_P D cl ws H) (hD : va_D A ws) (hS : va_S A s.heap H locs) (hA : ∀ q, s.heap.size ≤ q → A q)
    (n : Nat) (isC isR : List Nat) (hC : isC.map (fun i => ws[i]?) = wc.map some) (hC' : ∀ u, isC.map (fun i => (ws' u)[i]?) = (w1 u).map some) (hR' : ∀ u, isR.map (fun i => (ws' u)[i]?) = isR.map (fun i => ws[i]?)) (hall : (List.range n).all (fun k => isC.contains k || isR.contains k) = true) (hdis : isR.all (fun k => !isC.contains k) = true) (ha : ∀ u, (w1 u).map (·.1) = wc.map (·.1)) (hn' : ∀ u, (ws' u).length = n) (hn : ws.length = n)
    (kk : ∀ (r : Int32) (u : S) (H1 : Heap) (locs1 : List Loc), post r u → va_P D cl (ws' u) H1 → va_D A (ws' u) → va_S A s.heap H1 locs1 → W p l e R s m args below meth c H1 locs1 cells slots Q (F0 m (pc + 3) ls (.int r :: rest))) : W p l e R s m args below meth c H locs cells slots Q (F0 m pc ls st0) := by
  have hF := va_free (wc := wc) hD hS hA isC hC
  refine va_calli hr hS (fun q _ h => hF q h) hF (fun r u t H1 locs1 ht hvm hw hB hz hk hS1 => ?_)
  have hP1 : va_P D cl (w1 u) H1 := by rw [← ht]; exact hB.1
  obtain ⟨h1, h2⟩ := wback2 hP hD n isC isR hC (hC' u) (hR' u) hall hdis (ha u) (hn' u) hn hk hP1
  exact kk r u H1 locs1 hw h1 h2 hS1
theorem ke_l {S : Type} {post : Int64 → S → Prop} {w1 : S → va_W} {a : Array Value} (ws' : S → va_W) (hr : va_Run p l e R s m args below meth c H locs cells slots 0 0 (F0 m pc ls st0) rest (va_Ql post (fun u => PostW D cl (va_A wc H.size) (w1 u)) (va_A wc H.size) a) (va_A wc H.size)) (hP : va_P D cl ws H) (hD : va_D A ws) (hS : va_S A s.heap H locs) (hA : ∀ q, s.heap.size ≤ q → A q)
    (n : Nat) (isC isR : List Nat) (hC : isC.map (fun i => ws[i]?) = wc.map some) (hC' : ∀ u, isC.map (fun i => (ws' u)[i]?) = (w1 u).map some) (hR' : ∀ u, isR.map (fun i => (ws' u)[i]?) = isR.map (fun i => ws[i]?)) (hall : (List.range n).all (fun k => isC.contains k || isR.contains k) = true) (hdis : isR.all (fun k => !isC.contains k) = true) (ha : ∀ u, (w1 u).map (·.1) = wc.map (·.1)) (hn' : ∀ u, (ws' u).length = n) (hn : ws.length = n)
    (kk : ∀ (r : Int64) (u : S) (H1 : Heap) (locs1 : List Loc), post r u → va_P D cl (ws' u) H1 → va_D A (ws' u) → va_S A s.heap H1 locs1 → W p l e R s m args below meth c H1 locs1 cells slots Q (F0 m (pc + 3) ls (.long r :: rest))) : W p l e R s m args below meth c H locs cells slots Q (F0 m pc ls st0) := by
  have hF := va_free (wc := wc) hD hS hA isC hC
  refine va_calll hr hS (fun q _ h => hF q h) hF (fun r u t H1 locs1 ht hvm hw hB hz hk hS1 => ?_)
  have hP1 : va_P D cl (w1 u) H1 := by rw [← ht]; exact hB.1
  obtain ⟨h1, h2⟩ := wback2 hP hD n isC isR hC (hC' u) (hR' u) hall hdis (ha u) (hn' u) hn hk hP1
  exact kk r u H1 locs1 hw h1 h2 hS1
theorem ke_v {S : Type} {post : S → Prop} {w1 : S → va_W} {a : Array Value} (ws' : S → va_W) (hr : va_Run p l e R s m args below meth c H locs cells slots 0 0 (F0 m pc ls st0) rest (va_Qv post (fun u => PostW D cl (va_A wc H.size) (w1 u)) (va_A wc H.size) a) (va_A wc H.size)) (hP : va_P D cl ws H) (hD : va_D A ws) (hS : va_S A s.heap H locs) (hA : ∀ q, s.heap.size ≤ q → A q)
    (n : Nat) (isC isR : List Nat) (hC : isC.map (fun i => ws[i]?) = wc.map some) (hC' : ∀ u, isC.map (fun i => (ws' u)[i]?) = (w1 u).map some) (hR' : ∀ u, isR.map (fun i => (ws' u)[i]?) = isR.map (fun i => ws[i]?)) (hall : (List.range n).all (fun k => isC.contains k || isR.contains k) = true) (hdis : isR.all (fun k => !isC.contains k) = true) (ha : ∀ u, (w1 u).map (·.1) = wc.map (·.1)) (hn' : ∀ u, (ws' u).length = n) (hn : ws.length = n)
    (kk : ∀ (u : S) (H1 : Heap) (locs1 : List Loc), post u → va_P D cl (ws' u) H1 → va_D A (ws' u) → va_S A s.heap H1 locs1 → W p l e R s m args below meth c H1 locs1 cells slots Q (F0 m (pc + 3) ls rest)) : W p l e R s m args below meth c H locs cells slots Q (F0 m pc ls st0) := by
  have hF := va_free (wc := wc) hD hS hA isC hC
  refine va_callv hr hS (fun q _ h => hF q h) hF (fun u t H1 locs1 ht hvm hw hB hz hk hS1 => ?_)
  have hP1 : va_P D cl (w1 u) H1 := by rw [← ht]; exact hB.1
  obtain ⟨h1, h2⟩ := wback2 hP hD n isC isR hC (hC' u) (hR' u) hall hdis (ha u) (hn' u) hn hk hP1
  exact kk u H1 locs1 hw h1 h2 hS1
end KH
