/-! what the law's start gives -/
section SA
theorem tz_one {z : State} {za : Array Value} {O f d : String} (h : (Cond.laysStatic O f d).before za z = true) (h2 : (Cond.isRef (.static O f d)).before za z = true) : ∃ (c : ClassId) (a : Nat) (cell : Cell) (k : Class), z.vm.findClass O = some c ∧ z.vm.classes[c]? = some k ∧ k.statics = some a ∧ z.heap[a]? = some cell ∧
    ∀ (U : State) (args : Array Value), z.WarmedH U.vm → U.heap[a]? = some cell → (Cond.laysStatic O f d).before args U = true ∧ (Cond.isRef (.static O f d)).before args U = true := by
  obtain ⟨c, k, i, fd, a, cell, hc, hf, hst, hsta, hcell, hiss, hcls, hlt, hty⟩ := Cond.laysStatic_spec h
  refine ⟨c, a, cell, k, hc, (State.fieldFound?_spec hf).1, hsta, hcell, fun U args hW hU => ?_⟩
  obtain ⟨k', hk', he⟩ := State.fieldFound?_setVm hW.alike hf
  have hf' : U.fieldFound? O f d = some (c, k', i, fd) := hk'
  have hs' : k'.statics = some a := by rw [he]; exact hsta
  have ht' : k'.staticTypes[fd.slot]? = some fd.type := by rw [he]; exact hty
  have hc' : U.vm.findClass O = some c := by rw [hW.alike.findClass]; exact hc
  obtain ⟨v, hv, hvr⟩ := Cond.isRef_spec h2
  constructor
  · simp [Cond.before, Cond.holds, Cond.value, hc', hf', hst, hs', hU, hiss, hcls, hlt, ht']
  · simp [Term.eval, State.fieldNamed?, hf, hst, hsta, hcell, hiss] at hv
    simp [Cond.before, Cond.holds, Cond.value, Term.eval, State.fieldNamed?, hf', hst, hs', hU, hiss, hv]
    revert hvr
    cases v <;> simp [Value.isRef]
theorem tz_mk {z : State} {za : Array Value} (h1 : (Cond.laysStatic Bundle.tN "UNASSIGNED_STACK" Bundle.steD).before za z = true) (h2 : (Cond.laysStatic Bundle.tN "SUPPRESSED_SENTINEL" Bundle.listD).before za z = true) (h3 : (Cond.isRef (.static Bundle.tN "UNASSIGNED_STACK" Bundle.steD)).before za z = true) (h4 : (Cond.isRef (.static Bundle.tN "SUPPRESSED_SENTINEL" Bundle.listD)).before za z = true) :
    ∃ (aT : Nat) (cT : Cell), z.heap[aT]? = some cT ∧ tz_S z aT cT := by
  obtain ⟨c, a, cell, k, q1, q2, q3, q4, q5⟩ := tz_one h1 h3
  obtain ⟨c', a', cell', k', p1, p2, p3, p4, p5⟩ := tz_one h2 h4
  cases q1.symm.trans p1
  cases q2.symm.trans p2
  cases q3.symm.trans p3
  cases q4.symm.trans p4
  exact ⟨a, cell, q4, fun U args hW hU => ⟨(q5 U args hW hU).1, (p5 U args hW hU).1, (q5 U args hW hU).2, (p5 U args hW hU).2⟩⟩
theorem xl_no {args : Array Value} {s : State} {C T : String} {c t : ClassId} (h : (Cond.not (Cond.castable C T)).before args s = true) (hc : s.vm.findClass C = some c) (ht : s.vm.findClass T = some t) : s.vm.assignable c t = false := by
  simpa [Cond.before, Cond.holds, Cond.value, hc, ht] using h
theorem xn_mk {args : Array Value} {s : State} (h11 : (Cond.castable "java/lang/IndexOutOfBoundsException" "java/lang/IndexOutOfBoundsException").before args s = true) (h22 : (Cond.castable "java/lang/IllegalArgumentException" "java/lang/IllegalArgumentException").before args s = true) (h33 : (Cond.castable "java/lang/IllegalStateException" "java/lang/IllegalStateException").before args s = true)
    (h21 : (Cond.not (Cond.castable "java/lang/IllegalArgumentException" "java/lang/IndexOutOfBoundsException")).before args s = true) (h31 : (Cond.not (Cond.castable "java/lang/IllegalStateException" "java/lang/IndexOutOfBoundsException")).before args s = true) (h32 : (Cond.not (Cond.castable "java/lang/IllegalStateException" "java/lang/IllegalArgumentException")).before args s = true) : xn_S s := by
  obtain ⟨c1, d1, a1, b1, e1⟩ := Cond.castable_spec h11
  obtain ⟨c2, d2, a2, b2, e2⟩ := Cond.castable_spec h22
  obtain ⟨c3, d3, a3, b3, e3⟩ := Cond.castable_spec h33
  cases a1.symm.trans b1
  cases a2.symm.trans b2
  cases a3.symm.trans b3
  exact ⟨c1, c2, c3, a1, a2, a3, e1, e2, e3, xl_no h21 a2 a1, xl_no h31 a3 a1, xl_no h32 a3 a2⟩
theorem ar_mk {args : Array Value} {s : State} {ty : FieldType} (h : (Cond.arrayClass ty).before args s = true) : ∃ cA : ClassId, ArrOfT s cA ty ∧ s.vm.findClass ("[" ++ ty.toString) = some cA := by
  obtain ⟨c, k, comp, h1, h2, h3⟩ := Cond.arrayClass_spec h
  exact ⟨c, fun n z => ⟨fun k h => (by cases h), k, h2, comp, h3⟩, h1⟩
theorem kn_mk {args : Array Value} {s : State} (zh : ∀ w ∈ lw_tbl, w.before args s = true) : ∃ (D : va_G) (cI cZ cJ : ClassId), va_K D classes (wK cI cZ cJ) s := by
  have hZ : s.WarmedH s.vm := State.WarmedH.refl s
  obtain ⟨c0, i0, k0⟩ := u_known (u_Gov (args := args) zh hZ) (fun _ h => h) (wd (args := args) zh hZ 44 q_44 rfl)
  obtain ⟨c1, i1, k1⟩ := u_known (u_Chip (args := args) zh hZ) (fun _ h => h) (wd (args := args) zh hZ 52 q_52 rfl)
  obtain ⟨c2, i2, k2⟩ := u_known (u_Outlook (args := args) zh hZ) (fun _ h => h) (wd (args := args) zh hZ 128 q_128 rfl)
  obtain ⟨c3, i3, k3⟩ := u_known (u_Nodes (args := args) zh hZ) (fun _ h => h) (wd (args := args) zh hZ 144 q_144 rfl)
  obtain ⟨c4, i4, k4⟩ := u_known (u_Cores (args := args) zh hZ) (fun _ h => h) (wd (args := args) zh hZ 172 q_172 rfl)
  obtain ⟨c5, i5, k5⟩ := u_known (u_Model (args := args) zh hZ) (fun _ h => h) (wd (args := args) zh hZ 593 q_593 rfl)
  obtain ⟨cI, a1, b1⟩ := ar_mk (wdA (args := args) (ty := .int) zh hZ 126 q_126)
  obtain ⟨cZ, a2, b2⟩ := ar_mk (wdA (args := args) (ty := .boolean) zh hZ 170 q_170)
  obtain ⟨cJ, a3, b3⟩ := ar_mk (wdA (args := args) (ty := .long) zh hZ 696 q_696)
  refine ⟨(fun k => [c0, c1, c2, c3, c4, c5].getD k c0, fun k => [i0, i1, i2, i3, i4, i5].getD k i0), cI, cZ, cJ, fun c q hq => ?_, fun k q hq => ?_⟩
  · match c, hq with
    | 0, hq => cases hq; exact k0
    | 1, hq => cases hq; exact k1
    | 2, hq => cases hq; exact k2
    | 3, hq => cases hq; exact k3
    | 4, hq => cases hq; exact k4
    | 5, hq => cases hq; exact k5
    | n + 6, hq => cases hq
  · match k, hq with
    | 0, hq => cases hq; exact ⟨a1, b1⟩
    | 1, hq => cases hq; exact ⟨a2, b2⟩
    | 2, hq => cases hq; exact ⟨a3, b3⟩
    | n + 3, hq => cases hq
theorem lg_cmp_0 {x y : Int64} (h : x = y) : lg_cmp x y = 0 := by
  subst h
  unfold lg_cmp
  rw [if_neg (fun q => by have := l_lt.mp q; omega), if_pos rfl]
variable {p : Program} {l : Launch} {e : Env} {R : Room} {s : State} {m : MethodId} {args : Array Value} {below : List Frame} {meth : Method} {c : Code} {H : Heap} {locs : List Loc} {cells slots : Nat} {Q : State → Prop}
theorem nn_sld {cc : ByteArray} {pc : Nat} {ls : Array Slot} {rest : List Value} {A : Nat → Prop} (hexec : p.tables.exec = Jvm.exec) (hb : c.code = cc) {b L : Nat} {xs : Nat → Int32} (hX : va_X b L xs s s.heap) (hbl : b < s.heap.size) (hbA : ¬ A b) (hS : va_S A s.heap H locs) {j : Nat} (hj : j < L) (hL : L < 100000) (hdg : decode cc pc = .ok (.iaload, 1))
    (kk : W p l e R s m args below meth c H locs cells slots Q (F0 m (pc + 1) ls (.int (xs j) :: rest))) : W p l e R s m args below meth c H locs cells slots Q (F0 m pc ls (.int (nI j) :: .ref b :: rest)) :=
  va_sld hexec hb hX hbl hbA hS (vp_in_nI hj (by omega)) hdg (by rw [nI_clamp (by omega)]; exact kk)
end SA
