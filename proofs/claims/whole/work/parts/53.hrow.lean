section HR
/-- what the law's helpers know of the three exceptions' classes -/
def xn_S (z : State) : Prop := ∃ c1 c2 c3 : ClassId, z.vm.findClass "java/lang/IndexOutOfBoundsException" = some c1 ∧ z.vm.findClass "java/lang/IllegalArgumentException" = some c2 ∧ z.vm.findClass "java/lang/IllegalStateException" = some c3 ∧
  z.vm.assignable c1 c1 = true ∧ z.vm.assignable c2 c2 = true ∧ z.vm.assignable c3 c3 = true ∧ z.vm.assignable c2 c1 = false ∧ z.vm.assignable c3 c1 = false ∧ z.vm.assignable c3 c2 = false
theorem xn_at {z s : State} (hZ : z.WarmedH s.vm) (h : xn_S z) : xn_S s := by
  obtain ⟨c1, c2, c3, h1, h2, h3, h4, h5, h6, h7, h8, h9⟩ := h
  have e := hZ.alike
  exact ⟨c1, c2, c3, by rw [e.findClass]; exact h1, by rw [e.findClass]; exact h2, by rw [e.findClass]; exact h3, by rw [e.assignable]; exact h4, by rw [e.assignable]; exact h5, by rw [e.assignable]; exact h6, by rw [e.assignable]; exact h7, by rw [e.assignable]; exact h8, by rw [e.assignable]; exact h9⟩
theorem lk_hit {s : State} {cx cc : ClassId} {own cn : String} {args : Array Value} {pc hp : Nat} {q : Nat × Nat × Nat × Nat} {r : List ((Nat × Nat × Nat × Nat) × String)} (h1 : decide (q.1 ≤ pc) = true) (h2 : decide (pc < q.2.1) = true) (h3 : q.2.2.2 ≠ 0) (h4 : (Cond.classLink own q.2.2.2 cn).before args s = true) (h5 : s.vm.findClass cn = some cc) (h6 : s.vm.assignable cx cc = true) (h7 : hp = q.2.2.1) : tx_look s cx own args pc ((q, cn) :: r) hp := ⟨h1, h2, h3, h4, cc, h5, Or.inl ⟨h6, h7⟩⟩
theorem lk_miss {s : State} {cx cc : ClassId} {own cn : String} {args : Array Value} {pc hp : Nat} {q : Nat × Nat × Nat × Nat} {r : List ((Nat × Nat × Nat × Nat) × String)} (h1 : decide (q.1 ≤ pc) = true) (h2 : decide (pc < q.2.1) = true) (h3 : q.2.2.2 ≠ 0) (h4 : (Cond.classLink own q.2.2.2 cn).before args s = true) (h5 : s.vm.findClass cn = some cc) (h6 : s.vm.assignable cx cc = false) (h7 : tx_look s cx own args pc r hp) : tx_look s cx own args pc ((q, cn) :: r) hp := ⟨h1, h2, h3, h4, cc, h5, Or.inr ⟨h6, h7⟩⟩
theorem tx_cls3 : ∀ {k : Nat}, ¬ k = 1 → ¬ k = 2 → tx_cls k = "java/lang/IllegalStateException"
  | 0, _, _ => rfl
  | 1, h, _ => absurd rfl h
  | 2, _, h => absurd rfl h
  | _ + 3, _, _ => rfl
def tx_case {S Y : Type} (F : Sum Nat S) (g : Nat → Y) (h : S → Y) : Y := match F with
  | .inl n => g n
  | .inr u => h u
theorem kc_inr {S Y : Type} {F : Sum Nat S} (g : Nat → Y) (h : S → Y) {t : Y} {u : S} (hu : Sum.inr u = F) (hR : t = tx_case F g h) : t = h u := by rw [← hu] at hR; exact hR
theorem kc_inl {S Y : Type} {F : Sum Nat S} (g : Nat → Y) (h : S → Y) {t : Y} {n : Nat} (hu : Sum.inl n = F) (hR : t = tx_case F g h) : t = g n := by rw [← hu] at hR; exact hR
theorem tx_then_inl {A S : Type} {x : Sum Nat A} {r : Sum Nat S} {n : Nat} (h : Sum.inl n = tx_then x r) : Sum.inl n = x ∨ Sum.inl n = r := by
  cases x with
  | inl k => left; simp only [tx_then] at h; cases h; rfl
  | inr u => right; exact h
theorem nl_Index {n : Nat} {i k : Int32} (h : Sum.inl n = p_gNeedIndex i k) : n = 1 := by
  unfold p_gNeedIndex at h
  split at h
  · cases h; rfl
  · split at h
    · cases h
    · cases h; rfl
theorem nl_Within {n : Nat} {i k j : Int32} (h : Sum.inl n = p_gNeedWithin i k j) : n = 2 := by
  unfold p_gNeedWithin at h
  split at h
  · cases h; rfl
  · split at h
    · cases h
    · cases h; rfl
theorem nl_Range {n : Nat} {i k j q : Int32} (h : Sum.inl n = p_gNeedRange i k j q) : n = 2 := by
  unfold p_gNeedRange at h
  split at h
  · cases h; rfl
  · split at h
    · cases h; rfl
    · split at h
      · cases h
      · cases h; rfl
theorem nl_Sealed {n : Nat} {i : Int32} (h : Sum.inl n = p_gNeedSealed i) : n = 3 := by
  unfold p_gNeedSealed at h
  split at h
  · cases h; try rfl
  · cases h; try rfl
theorem nl_Unsealed {n : Nat} {i : Int32} (h : Sum.inl n = p_gNeedUnsealed i) : n = 3 := by
  unfold p_gNeedUnsealed at h
  split at h
  · cases h; try rfl
  · cases h; try rfl
variable {p : Program} {l : Launch} {e : Env} {R : Room} {s : State} {m : MethodId} {args : Array Value} {below : List Frame} {meth : Method} {c : Code} {H : Heap} {locs : List Loc} {cells slots : Nat} {Q : State → Prop}
variable {cc bytes : ByteArray} {pc : Nat} {ls : Array Slot} {rest st0 As : List Value} {D : va_G} {cl : List vw_C} {A : Nat → Prop} {wc ws : va_W} {y : MethodName} {maxL nL n index : Nat} {ret : Option FieldType} {rm : Room} {own : String} {z : State} {cI cZ cJ : ClassId} {Qc : Array Value → State → Outcome → State → Prop} {free : Addr → Prop} {aT : Nat} {cT : Cell}
theorem tx_ofQH {ws ws' : List Cond} {Pc : Array Value → State → Prop} {mc ms : Nat} {hs : List (Nat × Nat × Nat × Nat)}
    (hy : plainName y.cls = true) (hw : ws = Cond.codeWith y cc maxL ret hs :: ws')
    (body : ∀ p e s m args below meth c s₁ (Q : State → Prop), BodyLoose p l y (headSpec ws rm) cc maxL ret e s m args below meth c s₁ → c.maxLocals = maxL → c.exceptionTable.toList = tableOf hs → Pc args s → (∀ t, MQ below Qc args s mc ms free t → Q t) →
      W p l e rm s m args below meth c s.heap [] 0 0 Q (entryFrame m args maxL)) : tx_Met l y ws rm Pc Qc mc ms free := by
  refine tx_ofWH hy hw (fun p e s m args below meth c s₁ B hml htab hP => body p e s m args below meth c s₁ _ B hml htab hP ?_)
  intro t h
  obtain ⟨o, b1, b2, b3, L, ⟨-, f1, f2⟩, f3⟩ := h
  exact ⟨o, b1, b2, b3, L, ⟨f1, f2⟩, f3⟩
/-- the cells that the callee may not touch, kept over a throw -/
theorem kh_keep {H1 : Heap} (hP : va_P D cl ws H) (h : ∀ q : Nat, q < H.size → H1[q]? = H[q]?) : va_P D cl ws H1 := fun k q hq => (hP k q hq).kept (h q.1 (hP k q hq).lt)
/-- a call of a method that returns or throws, in a method with handlers -/
theorem kh_v {S : Type} {F : Sum Nat S} {w1 : S → va_W} {a : Array Value} (ws' : S → va_W) (hr : tx_Run p l e R s m args below meth c H locs cells slots 1 6 (F0 m pc ls st0) rest (tx_Or (va_Qv (fun u => Sum.inr u = F) (fun u => PostW D cl (va_A wc H.size) (w1 u)) (va_A wc H.size)) F a) (va_A wc H.size)) (hP : va_P D cl ws H) (hD : va_D A ws) (hS : va_S A s.heap H locs) (hA : ∀ q, s.heap.size ≤ q → A q)
    (n : Nat) (isC isR : List Nat) (hC : isC.map (fun i => ws[i]?) = wc.map some) (hC' : ∀ u, isC.map (fun i => (ws' u)[i]?) = (w1 u).map some) (hR' : ∀ u, isR.map (fun i => (ws' u)[i]?) = isR.map (fun i => ws[i]?)) (hall : (List.range n).all (fun k => isC.contains k || isR.contains k) = true) (hdis : isR.all (fun k => !isC.contains k) = true) (ha : ∀ u, (w1 u).map (·.1) = wc.map (·.1)) (hn' : ∀ u, (ws' u).length = n) (hn : ws.length = n)
    (kr : ∀ (u : S) (H1 : Heap) (locs1 : List Loc), Sum.inr u = F → va_P D cl (ws' u) H1 → va_D A (ws' u) → va_S A s.heap H1 locs1 → W p l e R s m args below meth c H1 locs1 (cells + 1) (slots + 6) Q (F0 m (pc + 3) ls rest))
    (kt : ∀ (k : Nat) (x : Addr) (H1 : Heap) (locs1 : List Loc), Sum.inl k = F → tx_Is s (tx_cls k) H1 x → va_P D cl ws H1 → va_D A ws → va_S A s.heap H1 locs1 → tx_T p l e R s m args below meth c H1 locs1 (cells + 1) (slots + 6) Q (F0 m pc ls rest) x) : W p l e R s m args below meth c H locs cells slots Q (F0 m pc ls st0) := by
  have hF := va_free (wc := wc) hD hS hA isC hC
  have hL9 : ∀ L : List Loc, (∀ q ∈ L, va_A wc H.size q.base) → ∀ q ∈ locs ++ L, A q.base := fun L hL q hq => by
    rcases List.mem_append.mp hq with h | h
    · exact hS.2.2 q h
    · exact hF _ (hL q h)
  refine tx_two hr (fun v st₀ t H1 L h0 hal ht hq hL => ?_) (fun x st₀ t H1 L h0 hal ht hq hL => ?_)
  · rcases hq with ⟨⟨u, ho, hpost, hB⟩, hz, hk⟩ | ⟨k, x, _, ho, _⟩
    · cases ho
      rw [h0] at hz hk
      rw [ht] at hz hk
      have hP1 : va_P D cl (w1 u) H1 := by rw [← ht]; exact hB.1
      obtain ⟨h1, h2⟩ := wback2 hP hD n isC isR hC (hC' u) (hR' u) hall hdis (ha u) (hn' u) hn hk hP1
      exact kr u H1 _ hpost h1 h2 ⟨Nat.le_trans hS.1 hz, fun q g1 g2 => by rw [hk q (Nat.lt_of_lt_of_le g1 hS.1) (fun z => g2 (hF q z))]; exact hS.2.1 q g1 g2, hL9 L hL⟩
    · cases ho
  · rcases hq with ⟨⟨u, ho, _⟩, _⟩ | ⟨k, x', hF', ho, hI, hz, hk⟩
    · cases ho
    · cases ho
      rw [h0] at hz hk
      rw [ht] at hz hk hI
      obtain ⟨cell, i1, i2, i3⟩ := hI
      exact kt k x H1 _ hF' ⟨cell, i1, by rw [← hal.findClass]; exact i2, i3⟩ (kh_keep hP hk) hD ⟨Nat.le_trans hS.1 hz, fun q g1 g2 => by rw [hk q (Nat.lt_of_lt_of_le g1 hS.1)]; exact hS.2.1 q g1 g2, hL9 L hL⟩
theorem kh_i {S T : Type} {F : Sum Nat T} {pr : Int32 → S → T} {w1 : S → va_W} {a : Array Value} (ws' : S → va_W) (hr : tx_Run p l e R s m args below meth c H locs cells slots 1 6 (F0 m pc ls st0) rest (tx_Or (va_Qi (fun r u => Sum.inr (pr r u) = F) (fun u => PostW D cl (va_A wc H.size) (w1 u)) (va_A wc H.size)) F a) (va_A wc H.size)) (hP : va_P D cl ws H) (hD : va_D A ws) (hS : va_S A s.heap H locs) (hA : ∀ q, s.heap.size ≤ q → A q)
    (n : Nat) (isC isR : List Nat) (hC : isC.map (fun i => ws[i]?) = wc.map some) (hC' : ∀ u, isC.map (fun i => (ws' u)[i]?) = (w1 u).map some) (hR' : ∀ u, isR.map (fun i => (ws' u)[i]?) = isR.map (fun i => ws[i]?)) (hall : (List.range n).all (fun k => isC.contains k || isR.contains k) = true) (hdis : isR.all (fun k => !isC.contains k) = true) (ha : ∀ u, (w1 u).map (·.1) = wc.map (·.1)) (hn' : ∀ u, (ws' u).length = n) (hn : ws.length = n)
    (kr : ∀ (r : Int32) (u : S) (H1 : Heap) (locs1 : List Loc), Sum.inr (pr r u) = F → va_P D cl (ws' u) H1 → va_D A (ws' u) → va_S A s.heap H1 locs1 → W p l e R s m args below meth c H1 locs1 (cells + 1) (slots + 6) Q (F0 m (pc + 3) ls (.int r :: rest)))
    (kt : ∀ (k : Nat) (x : Addr) (H1 : Heap) (locs1 : List Loc), Sum.inl k = F → tx_Is s (tx_cls k) H1 x → va_P D cl ws H1 → va_D A ws → va_S A s.heap H1 locs1 → tx_T p l e R s m args below meth c H1 locs1 (cells + 1) (slots + 6) Q (F0 m pc ls rest) x) : W p l e R s m args below meth c H locs cells slots Q (F0 m pc ls st0) := by
  have hF := va_free (wc := wc) hD hS hA isC hC
  have hL9 : ∀ L : List Loc, (∀ q ∈ L, va_A wc H.size q.base) → ∀ q ∈ locs ++ L, A q.base := fun L hL q hq => by
    rcases List.mem_append.mp hq with h | h
    · exact hS.2.2 q h
    · exact hF _ (hL q h)
  refine tx_two hr (fun v st₀ t H1 L h0 hal ht hq hL => ?_) (fun x st₀ t H1 L h0 hal ht hq hL => ?_)
  · rcases hq with ⟨⟨r, u, ho, hpost, hB⟩, hz, hk⟩ | ⟨k, x, _, ho, _⟩
    · cases ho
      rw [h0] at hz hk
      rw [ht] at hz hk
      have hP1 : va_P D cl (w1 u) H1 := by rw [← ht]; exact hB.1
      obtain ⟨h1, h2⟩ := wback2 hP hD n isC isR hC (hC' u) (hR' u) hall hdis (ha u) (hn' u) hn hk hP1
      exact kr r u H1 _ hpost h1 h2 ⟨Nat.le_trans hS.1 hz, fun q g1 g2 => by rw [hk q (Nat.lt_of_lt_of_le g1 hS.1) (fun z => g2 (hF q z))]; exact hS.2.1 q g1 g2, hL9 L hL⟩
    · cases ho
  · rcases hq with ⟨⟨r, u, ho, _⟩, _⟩ | ⟨k, x', hF', ho, hI, hz, hk⟩
    · cases ho
    · cases ho
      rw [h0] at hz hk
      rw [ht] at hz hk hI
      obtain ⟨cell, i1, i2, i3⟩ := hI
      exact kt k x H1 _ hF' ⟨cell, i1, by rw [← hal.findClass]; exact i2, i3⟩ (kh_keep hP hk) hD ⟨Nat.le_trans hS.1 hz, fun q g1 g2 => by rw [hk q (Nat.lt_of_lt_of_le g1 hS.1)]; exact hS.2.1 q g1 g2, hL9 L hL⟩
/-- what a call of one of the law's helpers asks of the tables -/
def kCH (s : State) (args : Array Value) (own : String) (index : Nat) (y : MethodName) (bytes : ByteArray) (maxL : Nat) (ret : Option FieldType) (hs : List (Nat × Nat × Nat × Nat)) (n : Nat) : Prop :=
  (∀ (a' : Array Value) (U : State), s.WarmedH U.vm → (Cond.codeWith y bytes maxL ret hs).before a' U = true) ∧ (Cond.initialized y.cls).before args s = true ∧ (y.cls ≠ "java/lang/invoke/MethodHandle" ∧ y.cls ≠ "java/lang/invoke/VarHandle") ∧ (∀ sig, parseMethodDescriptor y.desc = some sig → n = sig.parameters.length) ∧ (Cond.methodLink own index y).before args s = true
theorem kx_H {hs : List (Nat × Nat × Nat × Nat)} (hT : H[aT]? = some cT) (hx : p.tables.exec = Jvm.exec) (hb : c.code = cc) (hml : c.maxLocals = nL) (hown : s.vm.findClass own = some m.cls) (hZ : z.WarmedH s.vm) (hM : tx_Met l y [Cond.codeWith y bytes maxL ret hs] rm (va_Pc As (PreX aT cT (PreW z D cl cI cZ cJ H.size wc))) Qc 1 6 free) (hc : kCH s args own index y bytes maxL ret hs n) (hst : (Cond.static y).before args s = true) (hrm : kRx R rm maxL)
    (hPc : va_P D cl wc H) (hK : va_K D cl (wK cI cZ cJ) s) (hDc : va_D A wc) (hn : As.length = n) (hsize : ls.size = nL) (hstack : st0 = As.reverse ++ rest) (hW : (rest.map fun v => v.category).sum ≤ 8) (hdg : decode cc pc = .ok (.invokestatic index, 3)) (hcl : cells + 1 ≤ R.cells) (hsl : slots + 6 ≤ R.slots) :
    tx_Run p l e R s m args below meth c H locs cells slots 1 6 (F0 m pc ls st0) rest (Qc As.toArray) free :=
  tx_runH (Ts := []) ⟨hx, hb, hml, hown, fun _ h => by cases h⟩ hM hrm.1 hrm.2.1 hrm.2.2.1 hrm.2.2.2 (fun w hw a' U hU => by rcases List.mem_singleton.mp hw with rfl; exact hc.1 a' U hU) (List.mem_singleton.mpr rfl) (hc.1 args s (State.WarmedH.refl s)) hc.2.1 hc.2.2.1 hc.2.2.2.1 hc.2.2.2.2 hst ⟨PreX.blind, PreX.pay hT hZ hPc hK hDc⟩ rfl hn hsize hstack (lv_room hW) hdg ⟨hcl, hsl⟩
/-- behind a call of one of the law's helpers: it has returned -/
theorem kl_i {S : Type} {post : Int32 → S → Prop} {w1 : S → va_W} {a : Array Value} (ws' : S → va_W) (hr : tx_Run p l e R s m args below meth c H locs cells slots 1 6 (F0 m pc ls st0) rest (va_Qi post (fun u => PostW D cl (va_A wc H.size) (w1 u)) (va_A wc H.size) a) (va_A wc H.size)) (hP : va_P D cl ws H) (hD : va_D A ws) (hS : va_S A s.heap H locs) (hA : ∀ q, s.heap.size ≤ q → A q)
    (n : Nat) (isC isR : List Nat) (hC : isC.map (fun i => ws[i]?) = wc.map some) (hC' : ∀ u, isC.map (fun i => (ws' u)[i]?) = (w1 u).map some) (hR' : ∀ u, isR.map (fun i => (ws' u)[i]?) = isR.map (fun i => ws[i]?)) (hall : (List.range n).all (fun k => isC.contains k || isR.contains k) = true) (hdis : isR.all (fun k => !isC.contains k) = true) (ha : ∀ u, (w1 u).map (·.1) = wc.map (·.1)) (hn' : ∀ u, (ws' u).length = n) (hn : ws.length = n)
    (kk : ∀ (r : Int32) (u : S) (H1 : Heap) (locs1 : List Loc), post r u → va_P D cl (ws' u) H1 → va_D A (ws' u) → va_S A s.heap H1 locs1 → W p l e R s m args below meth c H1 locs1 (cells + 1) (slots + 6) Q (F0 m (pc + 3) ls (.int r :: rest))) : W p l e R s m args below meth c H locs cells slots Q (F0 m pc ls st0) := by
  have hF := va_free (wc := wc) hD hS hA isC hC
  refine tx_two hr (fun v st₀ t H1 L h0 hal ht hq hL => ?_) (fun x st₀ t H1 L h0 hal ht hq hL => ?_)
  · obtain ⟨⟨r, u, ho, hpost, hB⟩, hz, hk⟩ := hq
    cases ho
    rw [h0] at hz hk
    rw [ht] at hz hk
    have hP1 : va_P D cl (w1 u) H1 := by rw [← ht]; exact hB.1
    obtain ⟨h1, h2⟩ := wback2 hP hD n isC isR hC (hC' u) (hR' u) hall hdis (ha u) (hn' u) hn hk hP1
    refine kk r u H1 _ hpost h1 h2 ⟨Nat.le_trans hS.1 hz, fun q g1 g2 => by rw [hk q (Nat.lt_of_lt_of_le g1 hS.1) (fun z => g2 (hF q z))]; exact hS.2.1 q g1 g2, fun q hq => ?_⟩
    rcases List.mem_append.mp hq with h | h
    · exact hS.2.2 q h
    · exact hF _ (hL q h)
  · obtain ⟨⟨r, u, ho, _⟩, _⟩ := hq
    cases ho
end HR
